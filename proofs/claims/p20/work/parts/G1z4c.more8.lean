
def wsP_x_compareI : List Cond := .code yJ6_compare_7cf53 cJ6_compare_7cf53 2 (some .int) :: (([]) ++ [])
theorem gW_x_compareI : wsP_x_compareI.all goodWord = true := by unfold wsP_x_compareI; exact gw_mk (by decide +kernel) rfl
set_option maxHeartbeats 4000000 in
set_option maxRecDepth 100000 in
theorem x_compareI (l : Launch) (D : va_G) (cI cB cZ : ClassId) (x : Int32) (y : Int32)  : gMi l yJ6_compare_7cf53 wsP_x_compareI ({ frames := 0, cells := 0, slots := 0, locals := 0 }) D cI cB cZ [] [.int x, .int y] [] (fun r9 w9 => ∃ z : Int32, (gC1 z x y) ∧ r9 = z ∧ w9 = []) := by
  refine gMi.of (cc := cJ6_compare_7cf53) (maxL := 2) (ret := (some .int)) (by decide) rfl (Nat.le_of_ble_eq_true rfl) (fun p e s m below meth c A ls hx hb hr hlk hml hts hown hin hA hP hK hD hS hN hl => ?_)
  have hown : s.vm.findClass RJ6 = some m.cls := hown
  have hl : lv_has ls 2 [(0, .int x), (1, .int y)] := hl
  refine lv_iload_n hx hb dJ6_compare_7cf53_0 rfl (lv_at hl 0 rfl) ?_
  refine lv_iload_n hx hb dJ6_compare_7cf53_1 rfl (lv_at hl 1 rfl) ?_
  refine lv_icmp_ge (tgt := 9) hx hb dJ6_compare_7cf53_2 (by decide) (fun c_1 => ?_) (fun c_1 => ?_)
  · refine lv_iload_n hx hb dJ6_compare_7cf53_9 rfl (lv_at hl 0 rfl) ?_
    refine lv_iload_n hx hb dJ6_compare_7cf53_10 rfl (lv_at hl 1 rfl) ?_
    refine lv_icmp_ne (tgt := 18) hx hb dJ6_compare_7cf53_11 (by decide) (fun c_2 => ?_) (fun c_2 => ?_)
    · refine lv_iconst (v := 1) hx hb dJ6_compare_7cf53_18 (by decide) ?_
      exact gx_iret (w' := []) hx hb hr hlk hK hP hD hS (Nat.le_of_ble_eq_true rfl) (Nat.le_of_ble_eq_true rfl) dJ6_compare_7cf53_19 ⟨1, (by first | exact Or.inr (Or.inl ⟨rfl, Int32.not_le.mp c_2⟩) | exact Or.inl ⟨rfl, c_2⟩ | exact Or.inr (Or.inr ⟨rfl, Int32.lt_of_le_of_ne c_1 (fun q => c_2 q.symm)⟩)), rfl, rfl⟩
    · refine lv_iconst (v := 0) hx hb dJ6_compare_7cf53_14 (by decide) ?_
      refine lv_goto (tgt := 19) hx hb dJ6_compare_7cf53_15 (by decide) ?_
      exact gx_iret (w' := []) hx hb hr hlk hK hP hD hS (Nat.le_of_ble_eq_true rfl) (Nat.le_of_ble_eq_true rfl) dJ6_compare_7cf53_19 ⟨0, (by first | exact Or.inr (Or.inl ⟨rfl, Int32.not_le.mp c_2⟩) | exact Or.inl ⟨rfl, c_2⟩ | exact Or.inr (Or.inr ⟨rfl, Int32.lt_of_le_of_ne c_1 (fun q => c_2 q.symm)⟩)), rfl, rfl⟩
  · refine lv_iconst (v := (-1)) hx hb dJ6_compare_7cf53_5 (by decide) ?_
    refine lv_goto (tgt := 19) hx hb dJ6_compare_7cf53_6 (by decide) ?_
    exact gx_iret (w' := []) hx hb hr hlk hK hP hD hS (Nat.le_of_ble_eq_true rfl) (Nat.le_of_ble_eq_true rfl) dJ6_compare_7cf53_19 ⟨(-1), (by first | exact Or.inr (Or.inl ⟨rfl, Int32.not_le.mp c_1⟩) | exact Or.inl ⟨rfl, c_1⟩ | exact Or.inr (Or.inr ⟨rfl, Int32.lt_of_le_of_ne c_1 (fun q => c_1 q.symm)⟩)), rfl, rfl⟩
def wsP_x_cmp : List Cond := .code yX2_compare cX2_compare 6 (some .int) :: (([.methodLink RX2 68 yX2_intOf, .instanceMethod yX2_intOf, .selects RX2 yX2_intOf yX2_intOf, .initialized RX2, .methodLink RX2 69 yJ6_compare_7cf53, .static yJ6_compare_7cf53, .initialized yJ6_compare_7cf53.cls]) ++ (wsP_c_findInt ++ (wsP_x_compareI ++ [])))
theorem gW_x_cmp : wsP_x_cmp.all goodWord = true := by unfold wsP_x_cmp; exact gw_mk (by decide +kernel) (gw_app gW_c_findInt (gw_app gW_x_compareI rfl))
set_option maxRecDepth 20000 in
theorem gP_x_cmp__c_findInt : GoodIn wsP_x_cmp (wsV RX2 68 RX2 yX2_intOf wsP_c_findInt) := gw_in (pre := [.methodLink RX2 68 yX2_intOf, .instanceMethod yX2_intOf, .selects RX2 yX2_intOf yX2_intOf, .initialized RX2]) (by decide +kernel) (fun _ h => List.mem_cons_of_mem _ (List.mem_append_right _ (List.mem_append_left _ h))) gW_c_findInt
set_option maxRecDepth 20000 in
theorem gP_x_cmp__x_compareI : GoodIn wsP_x_cmp (va_wsS RX2 69 yJ6_compare_7cf53 wsP_x_compareI) := gw_in (pre := [.methodLink RX2 69 yJ6_compare_7cf53, .static yJ6_compare_7cf53, .initialized yJ6_compare_7cf53.cls]) (by decide +kernel) (fun _ h => List.mem_cons_of_mem _ (List.mem_append_right _ (List.mem_append_right _ (List.mem_append_left _ h)))) gW_x_compareI
set_option maxHeartbeats 4000000 in
set_option maxRecDepth 100000 in
theorem x_cmp (l : Launch) (D : va_G) (cI cB cZ : ClassId) (h0 : Nat) (a4 : Nat) (v0 : Value) (v1 : Value) (v2 : Value) (s1 : Nat) (rr1 : Nat) (rec1 : Nat → Int32) (o0 : Nat) (b4 : Nat) (w0 : Value) (w1 : Value) (w2 : Value) (s2 : Nat) (rr2 : Nat) (rec2 : Nat → Int32) (n : Nat) (m9 : Nat) (h1 : n * 17 + 17 ≤ rr1) (h2 : m9 * 17 + 17 ≤ rr2) (h3 : rr1 ≤ 51000) (h4 : rr2 ≤ 51000) : gMi l yX2_compare wsP_x_cmp ({ frames := 1, cells := 0, slots := 0, locals := 22 }) D cI cB cZ [] [.ref h0, .int (nI n), .ref o0, .int (nI m9)] [(h0, .inr (2, [v0, v1, v2, .int (nI s1), .ref a4])), (a4, .inl (cI, rr1, .inl rec1)), (o0, .inr (2, [w0, w1, w2, .int (nI s2), .ref b4])), (b4, .inl (cI, rr2, .inl rec2))] (fun r9 w9 => ∃ z : Int32, (gCq z (gRr rec1 n) (gRr rec2 m9)) ∧ r9 = z ∧ w9 = [(h0, .inr (2, [v0, v1, v2, .int (nI s1), .ref a4])), (a4, .inl (cI, rr1, .inl rec1)), (o0, .inr (2, [w0, w1, w2, .int (nI s2), .ref b4])), (b4, .inl (cI, rr2, .inl rec2))]) := by
  refine gMi.of (cc := cX2_compare) (maxL := 6) (ret := (some .int)) (by decide) rfl (Nat.le_of_ble_eq_true rfl) (fun p e s m below meth c A ls hx hb hr hlk hml hts hown hin hA hP hK hD hS hN hl => ?_)
  have hown : s.vm.findClass RX2 = some m.cls := hown
  have hl : lv_has ls 6 [(0, .ref h0), (1, .int (nI n)), (2, .ref o0), (3, .int (nI m9))] := hl
  refine lv_iconst (v := 0) hx hb dX2_compare_0 (by decide) ?_
  refine lv_istore (lv' := [(4, .int 0), (0, .ref h0), (1, .int (nI n)), (2, .ref o0), (3, .int (nI m9))]) hx hb dX2_compare_1 hl (by decide) rfl (fun ls hl => ?_)
  refine gy_loop0 (I := fun (x9 : Nat) H locs ls => (x9 ≤ 13) ∧ (∀ j, j < x9 → gRr rec1 n j = gRr rec2 m9 j) ∧ va_P D vwCl [(h0, .inr (2, [v0, v1, v2, .int (nI s1), .ref a4])), (a4, .inl (cI, rr1, .inl rec1)), (o0, .inr (2, [w0, w1, w2, .int (nI s2), .ref b4])), (b4, .inl (cI, rr2, .inl rec2))] H ∧ va_D A [(h0, .inr (2, [v0, v1, v2, .int (nI s1), .ref a4])), (a4, .inl (cI, rr1, .inl rec1)), (o0, .inr (2, [w0, w1, w2, .int (nI s2), .ref b4])), (b4, .inl (cI, rr2, .inl rec2))] ∧ va_S A s.heap H locs ∧ lv_has ls 6 [(4, .int (nI x9)), (0, .ref h0), (1, .int (nI n)), (2, .ref o0), (3, .int (nI m9))]) (μ := fun (x9 : Nat) => 13 - x9) (fun x9 H locs ls hI ih3 => ?_) 0 ⟨(by show 0 ≤ 13; exact Nat.le_of_ble_eq_true rfl), (by show ∀ j, j < 0 → gRr rec1 n j = gRr rec2 m9 j; exact (fun j h => absurd h (Nat.not_lt_zero j))), hP, hD, hS, lv_sub hl [0, 1, 2, 3, 4] rfl⟩
  obtain ⟨i, rfl⟩ : ∃ z9, z9 = x9 := ⟨_, rfl⟩
  obtain ⟨hi3_0, hi3_1, hP, hD, hS, hl⟩ := hI
  have hi3_0 : i ≤ 13 := hi3_0
  have hi3_1 : ∀ j, j < i → gRr rec1 n j = gRr rec2 m9 j := hi3_1
  have hP : va_P D vwCl [(h0, .inr (2, [v0, v1, v2, .int (nI s1), .ref a4])), (a4, .inl (cI, rr1, .inl rec1)), (o0, .inr (2, [w0, w1, w2, .int (nI s2), .ref b4])), (b4, .inl (cI, rr2, .inl rec2))] H := hP
  have hD : va_D A [(h0, .inr (2, [v0, v1, v2, .int (nI s1), .ref a4])), (a4, .inl (cI, rr1, .inl rec1)), (o0, .inr (2, [w0, w1, w2, .int (nI s2), .ref b4])), (b4, .inl (cI, rr2, .inl rec2))] := hD
  have hS : va_S A s.heap H locs := hS
  have hl : lv_has ls 6 [(4, .int (nI i)), (0, .ref h0), (1, .int (nI n)), (2, .ref o0), (3, .int (nI m9))] := hl
  refine lv_iload hx hb dX2_compare_3 (lv_at hl 0 rfl) ?_
  refine lv_bipush (v := 13) hx hb dX2_compare_5 (by decide) ?_
  refine gy_ge (a := i) (b := 13) (tgt := 43) hx hb (by omega) (by omega) dX2_compare_7 (by decide) (fun c_1 => ?_) (fun c_1 => ?_)
  · refine lv_iconst (v := 0) hx hb dX2_compare_43 (by decide) ?_
    exact gx_iret (w' := [(h0, .inr (2, [v0, v1, v2, .int (nI s1), .ref a4])), (a4, .inl (cI, rr1, .inl rec1)), (o0, .inr (2, [w0, w1, w2, .int (nI s2), .ref b4])), (b4, .inl (cI, rr2, .inl rec2))]) hx hb hr hlk hK hP hD hS (Nat.le_of_ble_eq_true rfl) (Nat.le_of_ble_eq_true rfl) dX2_compare_44 ⟨0, (gCq_e (fun j h => hi3_1 j (by omega))), rfl, rfl⟩
  · refine lv_aload_n hx hb dX2_compare_10 rfl (lv_at hl 1 rfl) ?_
    refine lv_iload_n hx hb dX2_compare_11 rfl (lv_at hl 2 rfl) ?_
    refine lv_iload hx hb dX2_compare_12 (lv_at hl 0 rfl) ?_
    refine gx_goi (wc := [(h0, .inr (2, [v0, v1, v2, .int (nI s1), .ref a4])), (a4, .inl (cI, rr1, .inl rec1))]) (wr := [(o0, .inr (2, [w0, w1, w2, .int (nI s2), .ref b4])), (b4, .inl (cI, rr2, .inl rec2))]) (va_runV (As := [.int (nI n), .int (nI i)]) (rest := []) ⟨hx, hb, hml, hown, hts⟩ (c_findInt l D cI cB cZ h0 a4 (v0) (v1) (v2) (.int (nI s1)) rr1 rec1 n i (by omega) (by omega) _) (cwV 2 hts gP_x_cmp__c_findInt rfl rfl rfl (by decide +kernel) ⟨Nat.le_of_ble_eq_true rfl, Nat.le_of_ble_eq_true rfl⟩) (gx_preV (ci := 2) (q0 := 0) hK gN.nil hP hD [0, 1] rfl rfl rfl rfl) rfl rfl hl.1 rfl (lv_room (Nat.le_of_ble_eq_true rfl)) dX2_compare_14 ⟨Nat.le_of_ble_eq_true rfl, Nat.le_of_ble_eq_true rfl⟩) hP hD hS hA [0, 1] [2, 3] rfl rfl rfl (by decide) (fun r1 w1 H locs hp hP hD hS => ?_)
    obtain ⟨h9, rfl⟩ := hp
    have h9 := h9.symm
    subst h9
    refine lv_aload_n hx hb dX2_compare_17 rfl (lv_at hl 3 rfl) ?_
    refine lv_iload_n hx hb dX2_compare_18 rfl (lv_at hl 4 rfl) ?_
    refine lv_iload hx hb dX2_compare_19 (lv_at hl 0 rfl) ?_
    refine gx_goi (wc := [(o0, .inr (2, [w0, w1, w2, .int (nI s2), .ref b4])), (b4, .inl (cI, rr2, .inl rec2))]) (wr := [(h0, .inr (2, [v0, v1, v2, .int (nI s1), .ref a4])), (a4, .inl (cI, rr1, .inl rec1))]) (va_runV (As := [.int (nI m9), .int (nI i)]) (rest := [.int (rec1 ((n * 17) + i))]) ⟨hx, hb, hml, hown, hts⟩ (c_findInt l D cI cB cZ o0 b4 (w0) (w1) (w2) (.int (nI s2)) rr2 rec2 m9 i (by omega) (by omega) _) (cwV 2 hts gP_x_cmp__c_findInt rfl rfl rfl (by decide +kernel) ⟨Nat.le_of_ble_eq_true rfl, Nat.le_of_ble_eq_true rfl⟩) (gx_preV (ci := 2) (q0 := 0) hK gN.nil hP hD [0, 1] rfl rfl rfl rfl) rfl rfl hl.1 rfl (lv_room (Nat.le_of_ble_eq_true rfl)) dX2_compare_21 ⟨Nat.le_of_ble_eq_true rfl, Nat.le_of_ble_eq_true rfl⟩) hP hD hS hA [0, 1] [2, 3] rfl rfl rfl (by decide) (fun r1 w1 H locs hp hP hD hS => ?_)
    obtain ⟨h9, rfl⟩ := hp
    have h9 := h9.symm
    subst h9
    refine gx_goi (wc := []) (wr := [(h0, .inr (2, [v0, v1, v2, .int (nI s1), .ref a4])), (a4, .inl (cI, rr1, .inl rec1)), (o0, .inr (2, [w0, w1, w2, .int (nI s2), .ref b4])), (b4, .inl (cI, rr2, .inl rec2))]) (va_runS (As := [.int (rec1 ((n * 17) + i)), .int (rec2 ((m9 * 17) + i))]) (rest := []) ⟨hx, hb, hml, hown, hts⟩ (x_compareI l D cI cB cZ (rec1 ((n * 17) + i)) (rec2 ((m9 * 17) + i)) _) (va_cwS 2 hts gP_x_cmp__x_compareI rfl rfl rfl (by decide +kernel) ⟨Nat.le_of_ble_eq_true rfl, Nat.le_of_ble_eq_true rfl⟩) (gx_preS hK gN.nil hP hD [] rfl rfl) rfl rfl hl.1 rfl (lv_room (Nat.le_of_ble_eq_true rfl)) dX2_compare_24 ⟨Nat.le_of_ble_eq_true rfl, Nat.le_of_ble_eq_true rfl⟩) hP hD hS hA [] [0, 1, 2, 3] rfl rfl rfl (by decide) (fun r1 w1 H locs hp hP hD hS => ?_)
    obtain ⟨e_2, hx24_0, h9, rfl⟩ := hp
    have h9 := h9.symm
    subst h9
    have hx24_0 : gC1 e_2 (rec1 ((n * 17) + i)) (rec2 ((m9 * 17) + i)) := hx24_0
    refine lv_istore (lv' := [(5, .int e_2), (4, .int (nI i)), (0, .ref h0), (1, .int (nI n)), (2, .ref o0), (3, .int (nI m9))]) hx hb dX2_compare_27 hl (by decide) rfl (fun ls hl => ?_)
    refine lv_iload hx hb dX2_compare_29 (lv_at hl 0 rfl) ?_
    refine lv_if_eq (tgt := 37) hx hb dX2_compare_31 (by decide) (fun c_3 => ?_) (fun c_3 => ?_)
    · refine lv_iinc (v := nI (i + 1)) (lv' := [(4, .int (nI (i + 1))), (5, .int e_2), (0, .ref h0), (1, .int (nI n)), (2, .ref o0), (3, .int (nI m9))]) hx hb dX2_compare_37 hl (k := 1) rfl (nI_add i 1) (by decide) rfl (fun ls hl => ?_)
      refine lv_goto (tgt := 3) hx hb dX2_compare_40 (by decide) ?_
      exact ih3 (i + 1) H locs ls ⟨(by show (i + 1) ≤ 13; omega), (by show ∀ j, j < (i + 1) → gRr rec1 n j = gRr rec2 m9 j; exact (fun j hj => by by_cases e9 : j = i; (subst e9; exact gC1_0 hx24_0 c_3); exact hi3_1 j (by omega))), hP, hD, hS, lv_sub hl [0, 2, 3, 4, 5] rfl⟩ (by show 13 - (i + 1) < 13 - i; omega)
    · refine lv_iload hx hb dX2_compare_34 (lv_at hl 0 rfl) ?_
      exact gx_iret (w' := [(h0, .inr (2, [v0, v1, v2, .int (nI s1), .ref a4])), (a4, .inl (cI, rr1, .inl rec1)), (o0, .inr (2, [w0, w1, w2, .int (nI s2), .ref b4])), (b4, .inl (cI, rr2, .inl rec2))]) hx hb hr hlk hK hP hD hS (Nat.le_of_ble_eq_true rfl) (Nat.le_of_ble_eq_true rfl) dX2_compare_36 ⟨e_2, (gCq_c (by omega) hi3_1 hx24_0 c_3), rfl, rfl⟩
def wsP_x_numberOther : List Cond := .code yX2_numberOfOther cX2_numberOfOther 6 (some .int) :: (([.fieldLink RX2 34 "LitmusHall$Findings" "size" "I", .methodLink RX2 64 yX2_compare, .instanceMethod yX2_compare, .selects RX2 yX2_compare yX2_compare, .initialized RX2] ++ wsX20) ++ (wsP_x_cmp ++ []))
theorem gW_x_numberOther : wsP_x_numberOther.all goodWord = true := by unfold wsP_x_numberOther; exact gw_mk (by decide +kernel) (gw_app gW_x_cmp rfl)
set_option maxRecDepth 20000 in
theorem gP_x_numberOther__x_cmp : GoodIn wsP_x_numberOther (wsV RX2 64 RX2 yX2_compare wsP_x_cmp) := gw_in (pre := [.methodLink RX2 64 yX2_compare, .instanceMethod yX2_compare, .selects RX2 yX2_compare yX2_compare, .initialized RX2]) (by decide +kernel) (fun _ h => List.mem_cons_of_mem _ (List.mem_append_right _ (List.mem_append_left _ h))) gW_x_cmp
set_option maxHeartbeats 4000000 in
set_option maxRecDepth 100000 in
theorem x_numberOther (l : Launch) (D : va_G) (cI cB cZ : ClassId) (h0 : Nat) (a4 : Nat) (v0 : Value) (v1 : Value) (v2 : Value) (s1 : Nat) (rr1 : Nat) (rec1 : Nat → Int32) (o0 : Nat) (b4 : Nat) (w0 : Value) (w1 : Value) (w2 : Value) (s2 : Nat) (rr2 : Nat) (rec2 : Nat → Int32) (x : Int32) (h1 : s1 * 17 ≤ rr1) (h2 : s2 * 17 ≤ rr2) (h3 : rr1 ≤ 51000) (h4 : rr2 ≤ 51000) (hSA : ∀ i j, i < j → j < s1 → gOl (gRr rec1 i) (gRr rec1 j)) (hSB : ∀ i j, i < j → j < s2 → gOl (gRr rec2 i) (gRr rec2 j)) : gMi l yX2_numberOfOther wsP_x_numberOther ({ frames := 2, cells := 0, slots := 0, locals := 47 }) D cI cB cZ [] [.ref h0, .ref o0, .int x] [(h0, .inr (2, [v0, v1, v2, .int (nI s1), .ref a4])), (a4, .inl (cI, rr1, .inl rec1)), (o0, .inr (2, [w0, w1, w2, .int (nI s2), .ref b4])), (b4, .inl (cI, rr2, .inl rec2))] (fun r9 w9 => ∃ z : Int32, (gMr (gNo (gRr rec1) (gRr rec2) s2) s1 x z) ∧ r9 = z ∧ w9 = [(h0, .inr (2, [v0, v1, v2, .int (nI s1), .ref a4])), (a4, .inl (cI, rr1, .inl rec1)), (o0, .inr (2, [w0, w1, w2, .int (nI s2), .ref b4])), (b4, .inl (cI, rr2, .inl rec2))]) := by
  refine gMi.of (cc := cX2_numberOfOther) (maxL := 6) (ret := (some .int)) (by decide) rfl (Nat.le_of_ble_eq_true rfl) (fun p e s m below meth c A ls hx hb hr hlk hml hts hown hin hA hP hK hD hS hN hl => ?_)
  have hown : s.vm.findClass RX2 = some m.cls := hown
  have hl : lv_has ls 6 [(0, .ref h0), (1, .ref o0), (2, .int x)] := hl
  refine lv_iconst (v := 0) hx hb dX2_numberOfOther_0 (by decide) ?_
  refine lv_istore_n (lv' := [(3, .int 0), (0, .ref h0), (1, .ref o0), (2, .int x)]) hx hb dX2_numberOfOther_1 rfl hl (by decide) rfl (fun ls hl => ?_)
  refine lv_iconst (v := 0) hx hb dX2_numberOfOther_2 (by decide) ?_
  refine lv_istore (lv' := [(4, .int 0), (3, .int 0), (0, .ref h0), (1, .ref o0), (2, .int x)]) hx hb dX2_numberOfOther_3 hl (by decide) rfl (fun ls hl => ?_)
  refine lv_iconst (v := 0) hx hb dX2_numberOfOther_5 (by decide) ?_
  refine lv_istore (lv' := [(5, .int 0), (4, .int 0), (3, .int 0), (0, .ref h0), (1, .ref o0), (2, .int x)]) hx hb dX2_numberOfOther_6 hl (by decide) rfl (fun ls hl => ?_)
  refine gy_loop0 (I := fun (x9 : Nat × Nat × Nat) H locs ls => (x9.1 ≤ s1) ∧ (x9.2.1 ≤ s2) ∧ (x9.2.2 ≤ x9.1) ∧ (gMl (gRr rec1) (gRr rec2) s1 s2 x9.1 x9.2.1 x9.2.2 x) ∧ va_P D vwCl [(h0, .inr (2, [v0, v1, v2, .int (nI s1), .ref a4])), (a4, .inl (cI, rr1, .inl rec1)), (o0, .inr (2, [w0, w1, w2, .int (nI s2), .ref b4])), (b4, .inl (cI, rr2, .inl rec2))] H ∧ va_D A [(h0, .inr (2, [v0, v1, v2, .int (nI s1), .ref a4])), (a4, .inl (cI, rr1, .inl rec1)), (o0, .inr (2, [w0, w1, w2, .int (nI s2), .ref b4])), (b4, .inl (cI, rr2, .inl rec2))] ∧ va_S A s.heap H locs ∧ lv_has ls 6 [(5, .int (nI x9.1)), (4, .int (nI x9.2.1)), (3, .int (nI x9.2.2)), (0, .ref h0), (1, .ref o0), (2, .int x)]) (μ := fun (x9 : Nat × Nat × Nat) => s1 - x9.1) (fun x9 H locs ls hI ih8 => ?_) (0, 0, 0) ⟨(by show 0 ≤ s1; exact Nat.zero_le _), (by show 0 ≤ s2; exact Nat.zero_le _), (by show 0 ≤ 0; exact Nat.le_of_ble_eq_true rfl), gMl_0, hP, hD, hS, lv_sub hl [0, 1, 2, 3, 4, 5] rfl⟩
  obtain ⟨n, t, me⟩ := x9
  obtain ⟨hi8_0, hi8_1, hi8_2, hi8_3, hP, hD, hS, hl⟩ := hI
  have hi8_0 : n ≤ s1 := hi8_0
  have hi8_1 : t ≤ s2 := hi8_1
  have hi8_2 : me ≤ n := hi8_2
  have hi8_3 : gMl (gRr rec1) (gRr rec2) s1 s2 n t me x := hi8_3
  have hP : va_P D vwCl [(h0, .inr (2, [v0, v1, v2, .int (nI s1), .ref a4])), (a4, .inl (cI, rr1, .inl rec1)), (o0, .inr (2, [w0, w1, w2, .int (nI s2), .ref b4])), (b4, .inl (cI, rr2, .inl rec2))] H := hP
  have hD : va_D A [(h0, .inr (2, [v0, v1, v2, .int (nI s1), .ref a4])), (a4, .inl (cI, rr1, .inl rec1)), (o0, .inr (2, [w0, w1, w2, .int (nI s2), .ref b4])), (b4, .inl (cI, rr2, .inl rec2))] := hD
  have hS : va_S A s.heap H locs := hS
  have hl : lv_has ls 6 [(5, .int (nI n)), (4, .int (nI t)), (3, .int (nI me)), (0, .ref h0), (1, .ref o0), (2, .int x)] := hl
  refine lv_iload hx hb dX2_numberOfOther_8 (lv_at hl 0 rfl) ?_
  refine lv_aload_n hx hb dX2_numberOfOther_10 rfl (lv_at hl 3 rfl) ?_
  refine va_get (D := D) (ci := 2) (v := .int (nI s1)) (C := RX2) (T := TX2) (N := 5) hx hb hts (fun _ h => List.mem_cons_of_mem _ (List.mem_append_left _ (List.mem_append_right _ h))) hown hK hP 0 rfl rfl 3 (by decide) (hts (.fieldLink RX2 34 "LitmusHall$Findings" "size" "I") (by decide +kernel)) (fun _ h9 => h9) rfl dX2_numberOfOther_11 ?_
  refine gy_ge (a := n) (b := s1) (tgt := 82) hx hb (by omega) (by omega) dX2_numberOfOther_14 (by decide) (fun c_1 => ?_) (fun c_1 => ?_)
  · refine lv_iconst (v := (-1)) hx hb dX2_numberOfOther_82 (by decide) ?_
    exact gx_iret (w' := [(h0, .inr (2, [v0, v1, v2, .int (nI s1), .ref a4])), (a4, .inl (cI, rr1, .inl rec1)), (o0, .inr (2, [w0, w1, w2, .int (nI s2), .ref b4])), (b4, .inl (cI, rr2, .inl rec2))]) hx hb hr hlk hK hP hD hS (Nat.le_of_ble_eq_true rfl) (Nat.le_of_ble_eq_true rfl) dX2_numberOfOther_83 ⟨(-1), (gMl_e hi8_3 (by omega)), rfl, rfl⟩
  · refine gy_loop0 (I := fun (x9 : Nat) H locs ls => (x9 ≤ s2) ∧ (∀ j, j < x9 → gOl (gRr rec2 j) (gRr rec1 n)) ∧ va_P D vwCl [(h0, .inr (2, [v0, v1, v2, .int (nI s1), .ref a4])), (a4, .inl (cI, rr1, .inl rec1)), (o0, .inr (2, [w0, w1, w2, .int (nI s2), .ref b4])), (b4, .inl (cI, rr2, .inl rec2))] H ∧ va_D A [(h0, .inr (2, [v0, v1, v2, .int (nI s1), .ref a4])), (a4, .inl (cI, rr1, .inl rec1)), (o0, .inr (2, [w0, w1, w2, .int (nI s2), .ref b4])), (b4, .inl (cI, rr2, .inl rec2))] ∧ va_S A s.heap H locs ∧ lv_has ls 6 [(5, .int (nI n)), (4, .int (nI x9)), (3, .int (nI me)), (0, .ref h0), (1, .ref o0), (2, .int x)]) (μ := fun (x9 : Nat) => s2 - x9) (fun x9 H locs ls hI ih17 => ?_) t ⟨(by show t ≤ s2; omega), (by show ∀ j, j < t → gOl (gRr rec2 j) (gRr rec1 n); exact (fun j hj => hi8_3.2.2 j n hj (Nat.le_refl _) (by omega))), hP, hD, hS, lv_sub hl [0, 1, 2, 3, 4, 5] rfl⟩
    obtain ⟨u, rfl⟩ : ∃ z9, z9 = x9 := ⟨_, rfl⟩
    obtain ⟨hi17_0, hi17_1, hP, hD, hS, hl⟩ := hI
    have hi17_0 : u ≤ s2 := hi17_0
    have hi17_1 : ∀ j, j < u → gOl (gRr rec2 j) (gRr rec1 n) := hi17_1
    have hP : va_P D vwCl [(h0, .inr (2, [v0, v1, v2, .int (nI s1), .ref a4])), (a4, .inl (cI, rr1, .inl rec1)), (o0, .inr (2, [w0, w1, w2, .int (nI s2), .ref b4])), (b4, .inl (cI, rr2, .inl rec2))] H := hP
    have hD : va_D A [(h0, .inr (2, [v0, v1, v2, .int (nI s1), .ref a4])), (a4, .inl (cI, rr1, .inl rec1)), (o0, .inr (2, [w0, w1, w2, .int (nI s2), .ref b4])), (b4, .inl (cI, rr2, .inl rec2))] := hD
    have hS : va_S A s.heap H locs := hS
    have hl : lv_has ls 6 [(5, .int (nI n)), (4, .int (nI u)), (3, .int (nI me)), (0, .ref h0), (1, .ref o0), (2, .int x)] := hl
    refine lv_iload hx hb dX2_numberOfOther_17 (lv_at hl 1 rfl) ?_
    refine lv_aload_n hx hb dX2_numberOfOther_19 rfl (lv_at hl 4 rfl) ?_
    refine va_get (D := D) (ci := 2) (v := .int (nI s2)) (C := RX2) (T := TX2) (N := 5) hx hb hts (fun _ h => List.mem_cons_of_mem _ (List.mem_append_left _ (List.mem_append_right _ h))) hown hK hP 2 rfl rfl 3 (by decide) (hts (.fieldLink RX2 34 "LitmusHall$Findings" "size" "I") (by decide +kernel)) (fun _ h9 => h9) rfl dX2_numberOfOther_20 ?_
    refine gy_ge (a := u) (b := s2) (tgt := 44) hx hb (by omega) (by omega) dX2_numberOfOther_23 (by decide) (fun c_2 => ?_) (fun c_2 => ?_)
    · have hge9 := c_2
      refine lv_iload hx hb dX2_numberOfOther_44 (lv_at hl 1 rfl) ?_
      refine lv_aload_n hx hb dX2_numberOfOther_46 rfl (lv_at hl 4 rfl) ?_
      refine va_get (D := D) (ci := 2) (v := .int (nI s2)) (C := RX2) (T := TX2) (N := 5) hx hb hts (fun _ h => List.mem_cons_of_mem _ (List.mem_append_left _ (List.mem_append_right _ h))) hown hK hP 2 rfl rfl 3 (by decide) (hts (.fieldLink RX2 34 "LitmusHall$Findings" "size" "I") (by decide +kernel)) (fun _ h9 => h9) rfl dX2_numberOfOther_47 ?_
      refine gy_ge (a := u) (b := s2) (tgt := 65) hx hb (by omega) (by omega) dX2_numberOfOther_50 (by decide) (fun c_3 => ?_) (fun c_3 => ?_)
      · have hnw : gNo (gRr rec1) (gRr rec2) s2 n := by first | exact gNo_a hi17_1 (by omega) | exact gNo_b hi17_1 hSB (gCq_nz hx59_0 c_3 (gCq_pos hx32_0 hge9)) | (exfalso; omega)
        refine lv_iload_n hx hb dX2_numberOfOther_65 rfl (lv_at hl 2 rfl) ?_
        refine lv_iload_n hx hb dX2_numberOfOther_66 rfl (lv_at hl 5 rfl) ?_
        refine lv_icmp_ne (tgt := 73) hx hb dX2_numberOfOther_67 (by decide) (fun c_4 => ?_) (fun c_4 => ?_)
        · refine lv_iinc (v := nI (me + 1)) (lv' := [(3, .int (nI (me + 1))), (5, .int (nI n)), (4, .int (nI u)), (0, .ref h0), (1, .ref o0), (2, .int x)]) hx hb dX2_numberOfOther_73 hl (k := 2) rfl (nI_add me 1) (by decide) rfl (fun ls hl => ?_)
          refine lv_iinc (v := nI (n + 1)) (lv' := [(5, .int (nI (n + 1))), (3, .int (nI (me + 1))), (4, .int (nI u)), (0, .ref h0), (1, .ref o0), (2, .int x)]) hx hb dX2_numberOfOther_76 hl (k := 1) rfl (nI_add n 1) (by decide) rfl (fun ls hl => ?_)
          refine lv_goto (tgt := 8) hx hb dX2_numberOfOther_79 (by decide) ?_
          exact ih8 ((n + 1), u, (me + 1)) H locs ls ⟨(by show (n + 1) ≤ s1; omega), (by show u ≤ s2; omega), (by show (me + 1) ≤ (n + 1); omega), (by show gMl (gRr rec1) (gRr rec2) s1 s2 (n + 1) u (me + 1) x; first | exact gMl_y hi8_3 hSA (by omega) hi17_1 hnw c_4 | exact gMl_n hi8_3 hSA (by omega) hi17_1 (gNo_n (u := u) (by omega) (gCq_z hx59_0 c_4))), hP, hD, hS, lv_sub hl [0, 2, 1, 3, 4, 5] rfl⟩ (by show s1 - (n + 1) < s1 - n; omega)
        · refine lv_iload hx hb dX2_numberOfOther_70 (lv_at hl 0 rfl) ?_
          exact gx_iret (w' := [(h0, .inr (2, [v0, v1, v2, .int (nI s1), .ref a4])), (a4, .inl (cI, rr1, .inl rec1)), (o0, .inr (2, [w0, w1, w2, .int (nI s2), .ref b4])), (b4, .inl (cI, rr2, .inl rec2))]) hx hb hr hlk hK hP hD hS (Nat.le_of_ble_eq_true rfl) (Nat.le_of_ble_eq_true rfl) dX2_numberOfOther_72 ⟨(nI n), (gMl_r hi8_3 (by omega) hnw c_4), rfl, rfl⟩
      · refine lv_aload_n hx hb dX2_numberOfOther_53 rfl (lv_at hl 4 rfl) ?_
        refine lv_iload hx hb dX2_numberOfOther_54 (lv_at hl 1 rfl) ?_
        refine lv_aload_n hx hb dX2_numberOfOther_56 rfl (lv_at hl 3 rfl) ?_
        refine lv_iload hx hb dX2_numberOfOther_57 (lv_at hl 0 rfl) ?_
        refine gx_goi (wc := [(o0, .inr (2, [w0, w1, w2, .int (nI s2), .ref b4])), (b4, .inl (cI, rr2, .inl rec2)), (h0, .inr (2, [v0, v1, v2, .int (nI s1), .ref a4])), (a4, .inl (cI, rr1, .inl rec1))]) (wr := []) (va_runV (As := [.int (nI u), .ref h0, .int (nI n)]) (rest := []) ⟨hx, hb, hml, hown, hts⟩ (x_cmp l D cI cB cZ o0 b4 (w0) (w1) (w2) s2 rr2 rec2 h0 a4 (v0) (v1) (v2) s1 rr1 rec1 u n (by omega) (by omega) (by omega) (by omega) _) (cwV 3 hts gP_x_numberOther__x_cmp rfl rfl rfl (by decide +kernel) ⟨Nat.le_of_ble_eq_true rfl, Nat.le_of_ble_eq_true rfl⟩) (gx_preV (ci := 2) (q0 := 0) hK gN.nil hP hD [2, 3, 0, 1] rfl rfl rfl rfl) rfl rfl hl.1 rfl (lv_room (Nat.le_of_ble_eq_true rfl)) dX2_numberOfOther_59 ⟨Nat.le_of_ble_eq_true rfl, Nat.le_of_ble_eq_true rfl⟩) hP hD hS hA [2, 3, 0, 1] [] rfl rfl rfl (by decide) (fun r1 w1 H locs hp hP hD hS => ?_)
        obtain ⟨e_5, hx59_0, h9, rfl⟩ := hp
        have h9 := h9.symm
        subst h9
        have hx59_0 : gCq e_5 (gRr rec2 u) (gRr rec1 n) := hx59_0
        refine lv_if_eq (tgt := 76) hx hb dX2_numberOfOther_62 (by decide) (fun c_6 => ?_) (fun c_6 => ?_)
        · refine lv_iinc (v := nI (n + 1)) (lv' := [(5, .int (nI (n + 1))), (4, .int (nI u)), (3, .int (nI me)), (0, .ref h0), (1, .ref o0), (2, .int x)]) hx hb dX2_numberOfOther_76 hl (k := 0) rfl (nI_add n 1) (by decide) rfl (fun ls hl => ?_)
          refine lv_goto (tgt := 8) hx hb dX2_numberOfOther_79 (by decide) ?_
          have hP := hP.sub (ws' := [(h0, .inr (2, [v0, v1, v2, .int (nI s1), .ref a4])), (a4, .inl (cI, rr1, .inl rec1)), (o0, .inr (2, [w0, w1, w2, .int (nI s2), .ref b4])), (b4, .inl (cI, rr2, .inl rec2))]) [2, 3, 0, 1] rfl
          have hD := hD.sub (ws' := [(h0, .inr (2, [v0, v1, v2, .int (nI s1), .ref a4])), (a4, .inl (cI, rr1, .inl rec1)), (o0, .inr (2, [w0, w1, w2, .int (nI s2), .ref b4])), (b4, .inl (cI, rr2, .inl rec2))]) [2, 3, 0, 1] (by decide) rfl
          exact ih8 ((n + 1), u, me) H locs ls ⟨(by show (n + 1) ≤ s1; omega), (by show u ≤ s2; omega), (by show me ≤ (n + 1); omega), (by show gMl (gRr rec1) (gRr rec2) s1 s2 (n + 1) u me x; first | exact gMl_y hi8_3 hSA (by omega) hi17_1 hnw c_6 | exact gMl_n hi8_3 hSA (by omega) hi17_1 (gNo_n (u := u) (by omega) (gCq_z hx59_0 c_6))), hP, hD, hS, lv_sub hl [0, 1, 2, 3, 4, 5] rfl⟩ (by show s1 - (n + 1) < s1 - n; omega)
        · have hnw : gNo (gRr rec1) (gRr rec2) s2 n := by first | exact gNo_a hi17_1 (by omega) | exact gNo_b hi17_1 hSB (gCq_nz hx59_0 c_6 (gCq_pos hx32_0 hge9)) | (exfalso; omega)
          refine lv_iload_n hx hb dX2_numberOfOther_65 rfl (lv_at hl 2 rfl) ?_
          refine lv_iload_n hx hb dX2_numberOfOther_66 rfl (lv_at hl 5 rfl) ?_
          refine lv_icmp_ne (tgt := 73) hx hb dX2_numberOfOther_67 (by decide) (fun c_7 => ?_) (fun c_7 => ?_)
          · refine lv_iinc (v := nI (me + 1)) (lv' := [(3, .int (nI (me + 1))), (5, .int (nI n)), (4, .int (nI u)), (0, .ref h0), (1, .ref o0), (2, .int x)]) hx hb dX2_numberOfOther_73 hl (k := 2) rfl (nI_add me 1) (by decide) rfl (fun ls hl => ?_)
            refine lv_iinc (v := nI (n + 1)) (lv' := [(5, .int (nI (n + 1))), (3, .int (nI (me + 1))), (4, .int (nI u)), (0, .ref h0), (1, .ref o0), (2, .int x)]) hx hb dX2_numberOfOther_76 hl (k := 1) rfl (nI_add n 1) (by decide) rfl (fun ls hl => ?_)
            refine lv_goto (tgt := 8) hx hb dX2_numberOfOther_79 (by decide) ?_
            have hP := hP.sub (ws' := [(h0, .inr (2, [v0, v1, v2, .int (nI s1), .ref a4])), (a4, .inl (cI, rr1, .inl rec1)), (o0, .inr (2, [w0, w1, w2, .int (nI s2), .ref b4])), (b4, .inl (cI, rr2, .inl rec2))]) [2, 3, 0, 1] rfl
            have hD := hD.sub (ws' := [(h0, .inr (2, [v0, v1, v2, .int (nI s1), .ref a4])), (a4, .inl (cI, rr1, .inl rec1)), (o0, .inr (2, [w0, w1, w2, .int (nI s2), .ref b4])), (b4, .inl (cI, rr2, .inl rec2))]) [2, 3, 0, 1] (by decide) rfl
            exact ih8 ((n + 1), u, (me + 1)) H locs ls ⟨(by show (n + 1) ≤ s1; omega), (by show u ≤ s2; omega), (by show (me + 1) ≤ (n + 1); omega), (by show gMl (gRr rec1) (gRr rec2) s1 s2 (n + 1) u (me + 1) x; first | exact gMl_y hi8_3 hSA (by omega) hi17_1 hnw c_7 | exact gMl_n hi8_3 hSA (by omega) hi17_1 (gNo_n (u := u) (by omega) (gCq_z hx59_0 c_7))), hP, hD, hS, lv_sub hl [0, 2, 1, 3, 4, 5] rfl⟩ (by show s1 - (n + 1) < s1 - n; omega)
          · refine lv_iload hx hb dX2_numberOfOther_70 (lv_at hl 0 rfl) ?_
            have hP := hP.sub (ws' := [(h0, .inr (2, [v0, v1, v2, .int (nI s1), .ref a4])), (a4, .inl (cI, rr1, .inl rec1)), (o0, .inr (2, [w0, w1, w2, .int (nI s2), .ref b4])), (b4, .inl (cI, rr2, .inl rec2))]) [2, 3, 0, 1] rfl
            have hD := hD.sub (ws' := [(h0, .inr (2, [v0, v1, v2, .int (nI s1), .ref a4])), (a4, .inl (cI, rr1, .inl rec1)), (o0, .inr (2, [w0, w1, w2, .int (nI s2), .ref b4])), (b4, .inl (cI, rr2, .inl rec2))]) [2, 3, 0, 1] (by decide) rfl
            exact gx_iret (w' := [(h0, .inr (2, [v0, v1, v2, .int (nI s1), .ref a4])), (a4, .inl (cI, rr1, .inl rec1)), (o0, .inr (2, [w0, w1, w2, .int (nI s2), .ref b4])), (b4, .inl (cI, rr2, .inl rec2))]) hx hb hr hlk hK hP hD hS (Nat.le_of_ble_eq_true rfl) (Nat.le_of_ble_eq_true rfl) dX2_numberOfOther_72 ⟨(nI n), (gMl_r hi8_3 (by omega) hnw c_7), rfl, rfl⟩
    · refine lv_aload_n hx hb dX2_numberOfOther_26 rfl (lv_at hl 4 rfl) ?_
      refine lv_iload hx hb dX2_numberOfOther_27 (lv_at hl 1 rfl) ?_
      refine lv_aload_n hx hb dX2_numberOfOther_29 rfl (lv_at hl 3 rfl) ?_
      refine lv_iload hx hb dX2_numberOfOther_30 (lv_at hl 0 rfl) ?_
      refine gx_goi (wc := [(o0, .inr (2, [w0, w1, w2, .int (nI s2), .ref b4])), (b4, .inl (cI, rr2, .inl rec2)), (h0, .inr (2, [v0, v1, v2, .int (nI s1), .ref a4])), (a4, .inl (cI, rr1, .inl rec1))]) (wr := []) (va_runV (As := [.int (nI u), .ref h0, .int (nI n)]) (rest := []) ⟨hx, hb, hml, hown, hts⟩ (x_cmp l D cI cB cZ o0 b4 (w0) (w1) (w2) s2 rr2 rec2 h0 a4 (v0) (v1) (v2) s1 rr1 rec1 u n (by omega) (by omega) (by omega) (by omega) _) (cwV 3 hts gP_x_numberOther__x_cmp rfl rfl rfl (by decide +kernel) ⟨Nat.le_of_ble_eq_true rfl, Nat.le_of_ble_eq_true rfl⟩) (gx_preV (ci := 2) (q0 := 0) hK gN.nil hP hD [2, 3, 0, 1] rfl rfl rfl rfl) rfl rfl hl.1 rfl (lv_room (Nat.le_of_ble_eq_true rfl)) dX2_numberOfOther_32 ⟨Nat.le_of_ble_eq_true rfl, Nat.le_of_ble_eq_true rfl⟩) hP hD hS hA [2, 3, 0, 1] [] rfl rfl rfl (by decide) (fun r1 w1 H locs hp hP hD hS => ?_)
      obtain ⟨e_8, hx32_0, h9, rfl⟩ := hp
      have h9 := h9.symm
      subst h9
      have hx32_0 : gCq e_8 (gRr rec2 u) (gRr rec1 n) := hx32_0
      refine lv_if_ge (tgt := 44) hx hb dX2_numberOfOther_35 (by decide) (fun c_9 => ?_) (fun c_9 => ?_)
      · have hge9 := c_9
        refine lv_iload hx hb dX2_numberOfOther_44 (lv_at hl 1 rfl) ?_
        refine lv_aload_n hx hb dX2_numberOfOther_46 rfl (lv_at hl 4 rfl) ?_
        refine va_get (D := D) (ci := 2) (v := .int (nI s2)) (C := RX2) (T := TX2) (N := 5) hx hb hts (fun _ h => List.mem_cons_of_mem _ (List.mem_append_left _ (List.mem_append_right _ h))) hown hK hP 0 rfl rfl 3 (by decide) (hts (.fieldLink RX2 34 "LitmusHall$Findings" "size" "I") (by decide +kernel)) (fun _ h9 => h9) rfl dX2_numberOfOther_47 ?_
        refine gy_ge (a := u) (b := s2) (tgt := 65) hx hb (by omega) (by omega) dX2_numberOfOther_50 (by decide) (fun c_10 => ?_) (fun c_10 => ?_)
        · have hnw : gNo (gRr rec1) (gRr rec2) s2 n := by first | exact gNo_a hi17_1 (by omega) | exact gNo_b hi17_1 hSB (gCq_nz hx59_0 c_10 (gCq_pos hx32_0 hge9)) | (exfalso; omega)
          refine lv_iload_n hx hb dX2_numberOfOther_65 rfl (lv_at hl 2 rfl) ?_
          refine lv_iload_n hx hb dX2_numberOfOther_66 rfl (lv_at hl 5 rfl) ?_
          refine lv_icmp_ne (tgt := 73) hx hb dX2_numberOfOther_67 (by decide) (fun c_11 => ?_) (fun c_11 => ?_)
          · refine lv_iinc (v := nI (me + 1)) (lv' := [(3, .int (nI (me + 1))), (5, .int (nI n)), (4, .int (nI u)), (0, .ref h0), (1, .ref o0), (2, .int x)]) hx hb dX2_numberOfOther_73 hl (k := 2) rfl (nI_add me 1) (by decide) rfl (fun ls hl => ?_)
            refine lv_iinc (v := nI (n + 1)) (lv' := [(5, .int (nI (n + 1))), (3, .int (nI (me + 1))), (4, .int (nI u)), (0, .ref h0), (1, .ref o0), (2, .int x)]) hx hb dX2_numberOfOther_76 hl (k := 1) rfl (nI_add n 1) (by decide) rfl (fun ls hl => ?_)
            refine lv_goto (tgt := 8) hx hb dX2_numberOfOther_79 (by decide) ?_
            have hP := hP.sub (ws' := [(h0, .inr (2, [v0, v1, v2, .int (nI s1), .ref a4])), (a4, .inl (cI, rr1, .inl rec1)), (o0, .inr (2, [w0, w1, w2, .int (nI s2), .ref b4])), (b4, .inl (cI, rr2, .inl rec2))]) [2, 3, 0, 1] rfl
            have hD := hD.sub (ws' := [(h0, .inr (2, [v0, v1, v2, .int (nI s1), .ref a4])), (a4, .inl (cI, rr1, .inl rec1)), (o0, .inr (2, [w0, w1, w2, .int (nI s2), .ref b4])), (b4, .inl (cI, rr2, .inl rec2))]) [2, 3, 0, 1] (by decide) rfl
            exact ih8 ((n + 1), u, (me + 1)) H locs ls ⟨(by show (n + 1) ≤ s1; omega), (by show u ≤ s2; omega), (by show (me + 1) ≤ (n + 1); omega), (by show gMl (gRr rec1) (gRr rec2) s1 s2 (n + 1) u (me + 1) x; first | exact gMl_y hi8_3 hSA (by omega) hi17_1 hnw c_11 | exact gMl_n hi8_3 hSA (by omega) hi17_1 (gNo_n (u := u) (by omega) (gCq_z hx59_0 c_11))), hP, hD, hS, lv_sub hl [0, 2, 1, 3, 4, 5] rfl⟩ (by show s1 - (n + 1) < s1 - n; omega)
          · refine lv_iload hx hb dX2_numberOfOther_70 (lv_at hl 0 rfl) ?_
            have hP := hP.sub (ws' := [(h0, .inr (2, [v0, v1, v2, .int (nI s1), .ref a4])), (a4, .inl (cI, rr1, .inl rec1)), (o0, .inr (2, [w0, w1, w2, .int (nI s2), .ref b4])), (b4, .inl (cI, rr2, .inl rec2))]) [2, 3, 0, 1] rfl
            have hD := hD.sub (ws' := [(h0, .inr (2, [v0, v1, v2, .int (nI s1), .ref a4])), (a4, .inl (cI, rr1, .inl rec1)), (o0, .inr (2, [w0, w1, w2, .int (nI s2), .ref b4])), (b4, .inl (cI, rr2, .inl rec2))]) [2, 3, 0, 1] (by decide) rfl
            exact gx_iret (w' := [(h0, .inr (2, [v0, v1, v2, .int (nI s1), .ref a4])), (a4, .inl (cI, rr1, .inl rec1)), (o0, .inr (2, [w0, w1, w2, .int (nI s2), .ref b4])), (b4, .inl (cI, rr2, .inl rec2))]) hx hb hr hlk hK hP hD hS (Nat.le_of_ble_eq_true rfl) (Nat.le_of_ble_eq_true rfl) dX2_numberOfOther_72 ⟨(nI n), (gMl_r hi8_3 (by omega) hnw c_11), rfl, rfl⟩
        · refine lv_aload_n hx hb dX2_numberOfOther_53 rfl (lv_at hl 4 rfl) ?_
          refine lv_iload hx hb dX2_numberOfOther_54 (lv_at hl 1 rfl) ?_
          refine lv_aload_n hx hb dX2_numberOfOther_56 rfl (lv_at hl 3 rfl) ?_
          refine lv_iload hx hb dX2_numberOfOther_57 (lv_at hl 0 rfl) ?_
          refine gx_goi (wc := [(o0, .inr (2, [w0, w1, w2, .int (nI s2), .ref b4])), (b4, .inl (cI, rr2, .inl rec2)), (h0, .inr (2, [v0, v1, v2, .int (nI s1), .ref a4])), (a4, .inl (cI, rr1, .inl rec1))]) (wr := []) (va_runV (As := [.int (nI u), .ref h0, .int (nI n)]) (rest := []) ⟨hx, hb, hml, hown, hts⟩ (x_cmp l D cI cB cZ o0 b4 (w0) (w1) (w2) s2 rr2 rec2 h0 a4 (v0) (v1) (v2) s1 rr1 rec1 u n (by omega) (by omega) (by omega) (by omega) _) (cwV 3 hts gP_x_numberOther__x_cmp rfl rfl rfl (by decide +kernel) ⟨Nat.le_of_ble_eq_true rfl, Nat.le_of_ble_eq_true rfl⟩) (gx_preV (ci := 2) (q0 := 0) hK gN.nil hP hD [0, 1, 2, 3] rfl rfl rfl rfl) rfl rfl hl.1 rfl (lv_room (Nat.le_of_ble_eq_true rfl)) dX2_numberOfOther_59 ⟨Nat.le_of_ble_eq_true rfl, Nat.le_of_ble_eq_true rfl⟩) hP hD hS hA [0, 1, 2, 3] [] rfl rfl rfl (by decide) (fun r1 w1 H locs hp hP hD hS => ?_)
          obtain ⟨e_12, hx59_0, h9, rfl⟩ := hp
          have h9 := h9.symm
          subst h9
          have hx59_0 : gCq e_12 (gRr rec2 u) (gRr rec1 n) := hx59_0
          refine lv_if_eq (tgt := 76) hx hb dX2_numberOfOther_62 (by decide) (fun c_13 => ?_) (fun c_13 => ?_)
          · refine lv_iinc (v := nI (n + 1)) (lv' := [(5, .int (nI (n + 1))), (4, .int (nI u)), (3, .int (nI me)), (0, .ref h0), (1, .ref o0), (2, .int x)]) hx hb dX2_numberOfOther_76 hl (k := 0) rfl (nI_add n 1) (by decide) rfl (fun ls hl => ?_)
            refine lv_goto (tgt := 8) hx hb dX2_numberOfOther_79 (by decide) ?_
            have hP := hP.sub (ws' := [(h0, .inr (2, [v0, v1, v2, .int (nI s1), .ref a4])), (a4, .inl (cI, rr1, .inl rec1)), (o0, .inr (2, [w0, w1, w2, .int (nI s2), .ref b4])), (b4, .inl (cI, rr2, .inl rec2))]) [2, 3, 0, 1] rfl
            have hD := hD.sub (ws' := [(h0, .inr (2, [v0, v1, v2, .int (nI s1), .ref a4])), (a4, .inl (cI, rr1, .inl rec1)), (o0, .inr (2, [w0, w1, w2, .int (nI s2), .ref b4])), (b4, .inl (cI, rr2, .inl rec2))]) [2, 3, 0, 1] (by decide) rfl
            exact ih8 ((n + 1), u, me) H locs ls ⟨(by show (n + 1) ≤ s1; omega), (by show u ≤ s2; omega), (by show me ≤ (n + 1); omega), (by show gMl (gRr rec1) (gRr rec2) s1 s2 (n + 1) u me x; first | exact gMl_y hi8_3 hSA (by omega) hi17_1 hnw c_13 | exact gMl_n hi8_3 hSA (by omega) hi17_1 (gNo_n (u := u) (by omega) (gCq_z hx59_0 c_13))), hP, hD, hS, lv_sub hl [0, 1, 2, 3, 4, 5] rfl⟩ (by show s1 - (n + 1) < s1 - n; omega)
          · have hnw : gNo (gRr rec1) (gRr rec2) s2 n := by first | exact gNo_a hi17_1 (by omega) | exact gNo_b hi17_1 hSB (gCq_nz hx59_0 c_13 (gCq_pos hx32_0 hge9)) | (exfalso; omega)
            refine lv_iload_n hx hb dX2_numberOfOther_65 rfl (lv_at hl 2 rfl) ?_
            refine lv_iload_n hx hb dX2_numberOfOther_66 rfl (lv_at hl 5 rfl) ?_
            refine lv_icmp_ne (tgt := 73) hx hb dX2_numberOfOther_67 (by decide) (fun c_14 => ?_) (fun c_14 => ?_)
            · refine lv_iinc (v := nI (me + 1)) (lv' := [(3, .int (nI (me + 1))), (5, .int (nI n)), (4, .int (nI u)), (0, .ref h0), (1, .ref o0), (2, .int x)]) hx hb dX2_numberOfOther_73 hl (k := 2) rfl (nI_add me 1) (by decide) rfl (fun ls hl => ?_)
              refine lv_iinc (v := nI (n + 1)) (lv' := [(5, .int (nI (n + 1))), (3, .int (nI (me + 1))), (4, .int (nI u)), (0, .ref h0), (1, .ref o0), (2, .int x)]) hx hb dX2_numberOfOther_76 hl (k := 1) rfl (nI_add n 1) (by decide) rfl (fun ls hl => ?_)
              refine lv_goto (tgt := 8) hx hb dX2_numberOfOther_79 (by decide) ?_
              have hP := hP.sub (ws' := [(h0, .inr (2, [v0, v1, v2, .int (nI s1), .ref a4])), (a4, .inl (cI, rr1, .inl rec1)), (o0, .inr (2, [w0, w1, w2, .int (nI s2), .ref b4])), (b4, .inl (cI, rr2, .inl rec2))]) [2, 3, 0, 1] rfl
              have hD := hD.sub (ws' := [(h0, .inr (2, [v0, v1, v2, .int (nI s1), .ref a4])), (a4, .inl (cI, rr1, .inl rec1)), (o0, .inr (2, [w0, w1, w2, .int (nI s2), .ref b4])), (b4, .inl (cI, rr2, .inl rec2))]) [2, 3, 0, 1] (by decide) rfl
              exact ih8 ((n + 1), u, (me + 1)) H locs ls ⟨(by show (n + 1) ≤ s1; omega), (by show u ≤ s2; omega), (by show (me + 1) ≤ (n + 1); omega), (by show gMl (gRr rec1) (gRr rec2) s1 s2 (n + 1) u (me + 1) x; first | exact gMl_y hi8_3 hSA (by omega) hi17_1 hnw c_14 | exact gMl_n hi8_3 hSA (by omega) hi17_1 (gNo_n (u := u) (by omega) (gCq_z hx59_0 c_14))), hP, hD, hS, lv_sub hl [0, 2, 1, 3, 4, 5] rfl⟩ (by show s1 - (n + 1) < s1 - n; omega)
            · refine lv_iload hx hb dX2_numberOfOther_70 (lv_at hl 0 rfl) ?_
              have hP := hP.sub (ws' := [(h0, .inr (2, [v0, v1, v2, .int (nI s1), .ref a4])), (a4, .inl (cI, rr1, .inl rec1)), (o0, .inr (2, [w0, w1, w2, .int (nI s2), .ref b4])), (b4, .inl (cI, rr2, .inl rec2))]) [2, 3, 0, 1] rfl
              have hD := hD.sub (ws' := [(h0, .inr (2, [v0, v1, v2, .int (nI s1), .ref a4])), (a4, .inl (cI, rr1, .inl rec1)), (o0, .inr (2, [w0, w1, w2, .int (nI s2), .ref b4])), (b4, .inl (cI, rr2, .inl rec2))]) [2, 3, 0, 1] (by decide) rfl
              exact gx_iret (w' := [(h0, .inr (2, [v0, v1, v2, .int (nI s1), .ref a4])), (a4, .inl (cI, rr1, .inl rec1)), (o0, .inr (2, [w0, w1, w2, .int (nI s2), .ref b4])), (b4, .inl (cI, rr2, .inl rec2))]) hx hb hr hlk hK hP hD hS (Nat.le_of_ble_eq_true rfl) (Nat.le_of_ble_eq_true rfl) dX2_numberOfOther_72 ⟨(nI n), (gMl_r hi8_3 (by omega) hnw c_14), rfl, rfl⟩
      · refine lv_iinc (v := nI (u + 1)) (lv' := [(4, .int (nI (u + 1))), (5, .int (nI n)), (3, .int (nI me)), (0, .ref h0), (1, .ref o0), (2, .int x)]) hx hb dX2_numberOfOther_38 hl (k := 1) rfl (nI_add u 1) (by decide) rfl (fun ls hl => ?_)
        refine lv_goto (tgt := 17) hx hb dX2_numberOfOther_41 (by decide) ?_
        have hP := hP.sub (ws' := [(h0, .inr (2, [v0, v1, v2, .int (nI s1), .ref a4])), (a4, .inl (cI, rr1, .inl rec1)), (o0, .inr (2, [w0, w1, w2, .int (nI s2), .ref b4])), (b4, .inl (cI, rr2, .inl rec2))]) [2, 3, 0, 1] rfl
        have hD := hD.sub (ws' := [(h0, .inr (2, [v0, v1, v2, .int (nI s1), .ref a4])), (a4, .inl (cI, rr1, .inl rec1)), (o0, .inr (2, [w0, w1, w2, .int (nI s2), .ref b4])), (b4, .inl (cI, rr2, .inl rec2))]) [2, 3, 0, 1] (by decide) rfl
        exact ih17 (u + 1) H locs ls ⟨(by show (u + 1) ≤ s2; omega), (by show ∀ j, j < (u + 1) → gOl (gRr rec2 j) (gRr rec1 n); exact (fun j hj => by by_cases e9 : j = u; (subst e9; exact gCq_neg hx32_0 c_9); exact hi17_1 j (by omega))), hP, hD, hS, lv_sub hl [1, 0, 2, 3, 4, 5] rfl⟩ (by show s2 - (u + 1) < s2 - u; omega)
