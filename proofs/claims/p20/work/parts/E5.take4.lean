
section RP
variable {a : Nat × Nat} {t t1 t9 x q m u : Nat} {s z fv pv fv1 pv1 fv9 pv9 lp lp9 : Int32} {Kd : Nat → Nat} {sf nf : Nat → Int32}
theorem rNote_a (h : lp = (-1)) : s = rNote lp s := (if_pos (Or.inl h)).symm
theorem rNote_b (h : ¬ lp ≤ s) : s = rNote lp s := (if_pos (Or.inr (Int32.not_le.mp h))).symm
theorem rNote_c (h : ¬ lp = (-1)) (k : lp ≤ s) : lp = rNote lp s := (if_neg (fun q => q.elim h (fun r => absurd k (Int32.not_le.mpr r)))).symm
theorem rOut_f {fv2 pv2 : Int32} (h : rOut a t9 s z fv pv fv9 pv9) (hz : z = 0) : rOut a t9 s 0 fv2 pv2 fv9 pv9 := by
  obtain ⟨h1, h2 | h2⟩ := h
  · exact absurd (hz.symm.trans h2.2.1) (by decide)
  · exact ⟨h1, Or.inr ⟨h2.1, rfl, h2.2.2⟩⟩
theorem rOut_c (h : rOut a t9 s z fv1 pv1 fv9 pv9) (e1 : fv1 = fv) (e2 : pv1 = pv) : rOut a t9 s z fv pv fv9 pv9 := by
  subst e1
  subst e2
  exact h
theorem rOut_k (e : q = Kd t) (h : rOut (rTake Kd q t) t9 s z fv pv fv9 pv9) : rOut (rTake Kd (Kd t) t) t9 s z fv pv fv9 pv9 := by
  subst e
  exact h
theorem rTk_y (h : rTake Kd x t = (0, t1)) : t1 = t + 1 ∧ Kd t = x ∧ t < 500 := by
  unfold rTake at h
  by_cases h1 : Kd t = x
  · rw [if_pos h1] at h
    by_cases h2 : t < 500
    · rw [if_pos h2] at h
      exact ⟨(congrArg Prod.snd h).symm, h1, h2⟩
    · rw [if_neg h2] at h
      exact absurd (congrArg Prod.fst h) (Nat.succ_ne_zero 1)
  · rw [if_neg h1] at h
    exact absurd (congrArg Prod.fst h) Nat.one_ne_zero
theorem vRg_y (h : 13 ≤ Kd t ∧ Kd t ≤ 15) : nI (Kd t - 13) = vRg Kd t := (if_pos h).symm
theorem vRg_n (h : ¬ (13 ≤ Kd t ∧ Kd t ≤ 15)) : (-1) = vRg Kd t := (if_neg h).symm
theorem vVl_y (h : 13 ≤ Kd t ∧ Kd t ≤ 15) : 0 = vVl Kd nf t := (if_pos h).symm
theorem vVl_n (h : ¬ (13 ≤ Kd t ∧ Kd t ≤ 15)) : vInt Kd nf t = vVl Kd nf t := (if_neg h).symm
theorem vInt_n (h : ¬ Kd t = 20) : nf t = vInt Kd nf t := (if_neg h).symm
theorem vInt_m (h : Kd t = 20) (e : u = t + 1) : - nf u = vInt Kd nf t := by
  subst e
  exact (if_pos h).symm
theorem rPl_1 (e : nf t = nI m) (h4 : 4 ≤ m) (hm : m ≤ 999) (eu : u = t) (h9 : lp9 = rNote lp (sf u)) : lp9 = rPl sf nf 1 t lp := by
  subst eu
  rw [h9]
  show _ = if nf u < 4 then _ else _
  rw [e]
  exact (if_neg (fun h => absurd ((nI_ltI (a := m) (b := 4) (by omega) (by decide)).mp h) (by omega))).symm
theorem rPl_0 (e : nf t = nI m) (h4 : m < 4) : lp = rPl sf nf 1 t lp := by
  show _ = if nf t < 4 then _ else _
  rw [e]
  exact (if_pos ((nI_ltI (a := m) (b := 4) (by omega) (by decide)).mpr h4)).symm
theorem rI1_a (h : (rTake Kd (Kd t) t).1 ≠ 0) : rTake Kd (Kd t) t = (rI1 Kd sf nf t lp).1 := by
  by_cases ht : t < 500
  · unfold rTake at h
    rw [if_pos rfl, if_pos ht] at h
    exact absurd rfl h
  · rw [rI1_r ht]
    unfold rTake
    rw [if_pos rfl, if_neg ht]
end RP
def wsP_x_take : List Cond := .code yX6_take cX6_take 2 (some .boolean) :: (([.fieldLink RX6 22 "LitmusHall$Reader" "kinds" "[I", .fieldLink RX6 45 "LitmusHall$Reader" "at" "I", .methodLink RX6 96 yX6_fail, .instanceMethod yX6_fail, .selects RX6 yX6_fail yX6_fail, .initialized RX6] ++ wsX60) ++ (wsP_c_fail ++ []))
theorem gW_x_take : wsP_x_take.all goodWord = true := by unfold wsP_x_take; exact gw_mk (by decide +kernel) (gw_app gW_c_fail rfl)
set_option maxRecDepth 20000 in
theorem gP_x_take__c_fail : GoodIn wsP_x_take (wsV RX6 96 RX6 yX6_fail wsP_c_fail) := gw_in (pre := [.methodLink RX6 96 yX6_fail, .instanceMethod yX6_fail, .selects RX6 yX6_fail yX6_fail, .initialized RX6]) (by decide +kernel) (fun _ h => List.mem_cons_of_mem _ (List.mem_append_right _ (List.mem_append_left _ h))) gW_c_fail
set_option maxHeartbeats 4000000 in
set_option maxRecDepth 100000 in
theorem x_take (l : Launch) (D : va_G) (cI cB cZ : ClassId) (h0 : Nat) (k4 : Nat) (k5 : Nat) (v0 : Value) (v3 : Value) (v6 : Value) (v7 : Value) (v9 : Value) (v10 : Value) (v11 : Value) (pv : Int32) (fv : Int32) (Kd : Nat → Nat) (sf : Nat → Int32) (t : Nat) (x : Nat) (ht : t ≤ 500) (hKx : Kd t ≤ 22) (hx9 : x ≤ 22) : gMi l yX6_take wsP_x_take ({ frames := 1, cells := 0, slots := 0, locals := 21 }) D cI cB cZ [] [.ref h0, .int (nI x)] [(h0, .inr (6, [v0, .int pv, .int fv, v3, .ref k4, .ref k5, v6, v7, .int (nI t), v9, v10, v11])), (k4, .inl (cI, 501, .inl (fun j => nI (Kd j)))), (k5, .inl (cI, 501, .inl sf))] (fun r9 w9 => ∃ z : Int32, ∃ pv9 : Int32, ∃ fv9 : Int32, ∃ t9 : Nat, ((z = 0 ∧ t9 = t ∧ ¬ fv9 = 0) ∨ (z = 1 ∧ t9 = t + 1 ∧ t < 500 ∧ nI (Kd t) = nI x ∧ fv9 = fv)) ∧ (rOut (rTake Kd x t) t9 (sf t9) z fv pv fv9 pv9) ∧ r9 = z ∧ w9 = [(h0, .inr (6, [v0, .int pv9, .int fv9, v3, .ref k4, .ref k5, v6, v7, .int (nI t9), v9, v10, v11])), (k4, .inl (cI, 501, .inl (fun j => nI (Kd j)))), (k5, .inl (cI, 501, .inl sf))]) := by
  refine gMi.of (cc := cX6_take) (maxL := 2) (ret := (some .boolean)) (by decide) rfl (Nat.le_of_ble_eq_true rfl) (fun p e s m below meth c A ls hx hb hr hlk hml hts hown hin hA hP hK hD hS hN hl => ?_)
  have hown : s.vm.findClass RX6 = some m.cls := hown
  have hl : lv_has ls 2 [(0, .ref h0), (1, .int (nI x))] := hl
  refine lv_aload_n hx hb dX6_take_0 rfl (lv_at hl 0 rfl) ?_
  refine va_get (D := D) (ci := 6) (v := .ref k4) (C := RX6) (T := TX6) (N := 12) hx hb hts (fun _ h => List.mem_cons_of_mem _ (List.mem_append_left _ (List.mem_append_right _ h))) hown hK hP 0 rfl rfl 4 (by decide) (hts (.fieldLink RX6 22 "LitmusHall$Reader" "kinds" "[I") (by decide +kernel)) (fun _ h9 => h9) rfl dX6_take_1 ?_
  refine lv_aload_n hx hb dX6_take_4 rfl (lv_at hl 0 rfl) ?_
  refine va_get (D := D) (ci := 6) (v := .int (nI t)) (C := RX6) (T := TX6) (N := 12) hx hb hts (fun _ h => List.mem_cons_of_mem _ (List.mem_append_left _ (List.mem_append_right _ h))) hown hK hP 0 rfl rfl 8 (by decide) (hts (.fieldLink RX6 45 "LitmusHall$Reader" "at" "I") (by decide +kernel)) (fun _ h9 => h9) rfl dX6_take_5 ?_
  refine gy_ild (i := t) hx hb hK hP 1 rfl (by omega) (by omega) dX6_take_8 ?_
  refine gx_top (y := nI (Kd t)) rfl ?_
  refine lv_iload_n hx hb dX6_take_9 rfl (lv_at hl 1 rfl) ?_
  refine gy_eq (a := (Kd t)) (b := x) (tgt := 19) hx hb (by omega) (by omega) dX6_take_10 (by decide) (fun c_1 => ?_) (fun c_1 => ?_)
  · refine lv_aload_n hx hb dX6_take_19 rfl (lv_at hl 0 rfl) ?_
    refine va_get (D := D) (ci := 6) (v := .int (nI t)) (C := RX6) (T := TX6) (N := 12) hx hb hts (fun _ h => List.mem_cons_of_mem _ (List.mem_append_left _ (List.mem_append_right _ h))) hown hK hP 0 rfl rfl 8 (by decide) (hts (.fieldLink RX6 45 "LitmusHall$Reader" "at" "I") (by decide +kernel)) (fun _ h9 => h9) rfl dX6_take_20 ?_
    refine lv_sipush (v := 500) hx hb dX6_take_23 (by decide) ?_
    refine gy_lt (a := t) (b := 500) (tgt := 35) hx hb (by omega) (by omega) dX6_take_26 (by decide) (fun c_2 => ?_) (fun c_2 => ?_)
    · refine lv_aload_n hx hb dX6_take_35 rfl (lv_at hl 0 rfl) ?_
      refine lv_dup hx hb dX6_take_36 rfl ?_
      refine va_get (D := D) (ci := 6) (v := .int (nI t)) (C := RX6) (T := TX6) (N := 12) hx hb hts (fun _ h => List.mem_cons_of_mem _ (List.mem_append_left _ (List.mem_append_right _ h))) hown hK hP 0 rfl rfl 8 (by decide) (hts (.fieldLink RX6 45 "LitmusHall$Reader" "at" "I") (by decide +kernel)) (fun _ h9 => h9) rfl dX6_take_37 ?_
      refine lv_iconst (v := 1) hx hb dX6_take_40 (by decide) ?_
      refine lv_iadd hx hb dX6_take_41 ?_
      refine gx_top (y := nI (t + 1)) (nI_add t 1) ?_
      refine va_put (D := D) (ci := 6) (v := .int (nI (t + 1))) (ty := .int) (C := RX6) (T := TX6) (N := 12) hx hb hts (fun _ h => List.mem_cons_of_mem _ (List.mem_append_left _ (List.mem_append_right _ h))) tyX6 tyX6_ok nmX6 hown hK hP hD hS 0 rfl rfl 8 (by decide) (hts (.fieldLink RX6 45 "LitmusHall$Reader" "at" "I") (by decide +kernel)) (fun _ h9 => h9) rfl (by decide +kernel) rfl rfl (Nat.le_of_ble_eq_true rfl) dX6_take_42 (fun H locs hP hD hS => ?_)
      have hP : va_P D vwCl [(h0, .inr (6, [v0, .int pv, .int fv, v3, .ref k4, .ref k5, v6, v7, .int (nI (t + 1)), v9, v10, v11])), (k4, .inl (cI, 501, .inl (fun j => nI (Kd j)))), (k5, .inl (cI, 501, .inl sf))] H := hP
      have hD : va_D A [(h0, .inr (6, [v0, .int pv, .int fv, v3, .ref k4, .ref k5, v6, v7, .int (nI (t + 1)), v9, v10, v11])), (k4, .inl (cI, 501, .inl (fun j => nI (Kd j)))), (k5, .inl (cI, 501, .inl sf))] := hD
      refine lv_iconst (v := 1) hx hb dX6_take_45 (by decide) ?_
      exact gx_zret (w' := [(h0, .inr (6, [v0, .int pv, .int fv, v3, .ref k4, .ref k5, v6, v7, .int (nI (t + 1)), v9, v10, v11])), (k4, .inl (cI, 501, .inl (fun j => nI (Kd j)))), (k5, .inl (cI, 501, .inl sf))]) hx hb hr hlk hK hP hD hS (Nat.le_of_ble_eq_true rfl) (Nat.le_of_ble_eq_true rfl) dX6_take_46 rfl ⟨1, pv, fv, (t + 1), (Or.inr ⟨rfl, rfl, c_2, congrArg nI c_1, rfl⟩), (rTk_c c_1 c_2), rfl, rfl⟩
    · refine lv_aload_n hx hb dX6_take_29 rfl (lv_at hl 0 rfl) ?_
      refine lv_iconst (v := 2) hx hb dX6_take_30 (by decide) ?_
      refine gx_goi (wc := [(h0, .inr (6, [v0, .int pv, .int fv, v3, .ref k4, .ref k5, v6, v7, .int (nI t), v9, v10, v11])), (k5, .inl (cI, 501, .inl sf))]) (wr := [(k4, .inl (cI, 501, .inl (fun j => nI (Kd j))))]) (va_runV (As := [.int 2]) (rest := []) ⟨hx, hb, hml, hown, hts⟩ (c_fail l D cI cB cZ h0 k5 (v0) (v3) (.ref k4) (v6) (v7) (v9) (v10) (v11) pv fv sf t 2 (by omega) _) (cwV 1 hts gP_x_take__c_fail rfl rfl rfl (by decide +kernel) ⟨Nat.le_of_ble_eq_true rfl, Nat.le_of_ble_eq_true rfl⟩) (gx_preV (ci := 6) (q0 := 0) hK gN.nil hP hD [0, 2] rfl rfl rfl rfl) rfl rfl hl.1 rfl (lv_room (Nat.le_of_ble_eq_true rfl)) dX6_take_31 ⟨Nat.le_of_ble_eq_true rfl, Nat.le_of_ble_eq_true rfl⟩) hP hD hS hA [0, 2] [1] rfl rfl rfl (by decide) (fun r1 w1 H locs hp hP hD hS => ?_)
      obtain ⟨h9, rfl⟩ := hp
      have h9 := h9.symm
      subst h9
      have hP := hP.sub (ws' := [(h0, .inr (6, [v0, .int (sf t), .int 2, v3, .ref k4, .ref k5, v6, v7, .int (nI t), v9, v10, v11])), (k4, .inl (cI, 501, .inl (fun j => nI (Kd j)))), (k5, .inl (cI, 501, .inl sf))]) [1, 0, 2] rfl
      have hD := hD.sub (ws' := [(h0, .inr (6, [v0, .int (sf t), .int 2, v3, .ref k4, .ref k5, v6, v7, .int (nI t), v9, v10, v11])), (k4, .inl (cI, 501, .inl (fun j => nI (Kd j)))), (k5, .inl (cI, 501, .inl sf))]) [1, 0, 2] (by decide) rfl
      exact gx_zret (w' := [(h0, .inr (6, [v0, .int (sf t), .int 2, v3, .ref k4, .ref k5, v6, v7, .int (nI t), v9, v10, v11])), (k4, .inl (cI, 501, .inl (fun j => nI (Kd j)))), (k5, .inl (cI, 501, .inl sf))]) hx hb hr hlk hK hP hD hS (Nat.le_of_ble_eq_true rfl) (Nat.le_of_ble_eq_true rfl) dX6_take_34 rfl ⟨0, (sf t), 2, t, (Or.inl ⟨rfl, rfl, by decide⟩), (rTk_b c_1 (by omega)), rfl, rfl⟩
  · refine lv_aload_n hx hb dX6_take_13 rfl (lv_at hl 0 rfl) ?_
    refine lv_iconst (v := 1) hx hb dX6_take_14 (by decide) ?_
    refine gx_goi (wc := [(h0, .inr (6, [v0, .int pv, .int fv, v3, .ref k4, .ref k5, v6, v7, .int (nI t), v9, v10, v11])), (k5, .inl (cI, 501, .inl sf))]) (wr := [(k4, .inl (cI, 501, .inl (fun j => nI (Kd j))))]) (va_runV (As := [.int 1]) (rest := []) ⟨hx, hb, hml, hown, hts⟩ (c_fail l D cI cB cZ h0 k5 (v0) (v3) (.ref k4) (v6) (v7) (v9) (v10) (v11) pv fv sf t 1 (by omega) _) (cwV 1 hts gP_x_take__c_fail rfl rfl rfl (by decide +kernel) ⟨Nat.le_of_ble_eq_true rfl, Nat.le_of_ble_eq_true rfl⟩) (gx_preV (ci := 6) (q0 := 0) hK gN.nil hP hD [0, 2] rfl rfl rfl rfl) rfl rfl hl.1 rfl (lv_room (Nat.le_of_ble_eq_true rfl)) dX6_take_15 ⟨Nat.le_of_ble_eq_true rfl, Nat.le_of_ble_eq_true rfl⟩) hP hD hS hA [0, 2] [1] rfl rfl rfl (by decide) (fun r1 w1 H locs hp hP hD hS => ?_)
    obtain ⟨h9, rfl⟩ := hp
    have h9 := h9.symm
    subst h9
    have hP := hP.sub (ws' := [(h0, .inr (6, [v0, .int (sf t), .int 1, v3, .ref k4, .ref k5, v6, v7, .int (nI t), v9, v10, v11])), (k4, .inl (cI, 501, .inl (fun j => nI (Kd j)))), (k5, .inl (cI, 501, .inl sf))]) [1, 0, 2] rfl
    have hD := hD.sub (ws' := [(h0, .inr (6, [v0, .int (sf t), .int 1, v3, .ref k4, .ref k5, v6, v7, .int (nI t), v9, v10, v11])), (k4, .inl (cI, 501, .inl (fun j => nI (Kd j)))), (k5, .inl (cI, 501, .inl sf))]) [1, 0, 2] (by decide) rfl
    exact gx_zret (w' := [(h0, .inr (6, [v0, .int (sf t), .int 1, v3, .ref k4, .ref k5, v6, v7, .int (nI t), v9, v10, v11])), (k4, .inl (cI, 501, .inl (fun j => nI (Kd j)))), (k5, .inl (cI, 501, .inl sf))]) hx hb hr hlk hK hP hD hS (Nat.le_of_ble_eq_true rfl) (Nat.le_of_ble_eq_true rfl) dX6_take_18 rfl ⟨0, (sf t), 1, t, (Or.inl ⟨rfl, rfl, by decide⟩), (rTk_a c_1), rfl, rfl⟩
def wsP_x_noteLate : List Cond := .code yX6_noteLate cX6_noteLate 2 none :: (([.fieldLink RX6 42 "LitmusHall$Reader" "latePlace" "I", .fieldLink RX6 26 "LitmusHall$Reader" "starts" "[I"] ++ wsX60) ++ [])
theorem gW_x_noteLate : wsP_x_noteLate.all goodWord = true := by unfold wsP_x_noteLate; exact gw_mk (by decide +kernel) rfl
set_option maxHeartbeats 4000000 in
set_option maxRecDepth 100000 in
theorem x_noteLate (l : Launch) (D : va_G) (cI cB cZ : ClassId) (h0 : Nat) (k5 : Nat) (v0 : Value) (v1 : Value) (v2 : Value) (v4 : Value) (v6 : Value) (v7 : Value) (v8 : Value) (v9 : Value) (v10 : Value) (v11 : Value) (lp : Int32) (sf : Nat → Int32) (t : Nat) (ht : t ≤ 500) (hsf : ¬ sf t = (-1)) : gMv l yX6_noteLate wsP_x_noteLate ({ frames := 0, cells := 0, slots := 0, locals := 0 }) D cI cB cZ [] [.ref h0, .int (nI t)] [(h0, .inr (6, [v0, v1, v2, .int lp, v4, .ref k5, v6, v7, v8, v9, v10, v11])), (k5, .inl (cI, 501, .inl sf))] (fun w9 => ∃ lp9 : Int32, (¬ lp9 = (-1)) ∧ (lp9 = rNote lp (sf t)) ∧ w9 = [(h0, .inr (6, [v0, v1, v2, .int lp9, v4, .ref k5, v6, v7, v8, v9, v10, v11])), (k5, .inl (cI, 501, .inl sf))]) := by
  refine gMv.of (cc := cX6_noteLate) (maxL := 2) (ret := none) (by decide) rfl (Nat.le_of_ble_eq_true rfl) (fun p e s m below meth c A ls hx hb hr hlk hml hts hown hin hA hP hK hD hS hN hl => ?_)
  have hown : s.vm.findClass RX6 = some m.cls := hown
  have hl : lv_has ls 2 [(0, .ref h0), (1, .int (nI t))] := hl
  refine lv_aload_n hx hb dX6_noteLate_0 rfl (lv_at hl 0 rfl) ?_
  refine va_get (D := D) (ci := 6) (v := .int lp) (C := RX6) (T := TX6) (N := 12) hx hb hts (fun _ h => List.mem_cons_of_mem _ (List.mem_append_left _ (List.mem_append_right _ h))) hown hK hP 0 rfl rfl 3 (by decide) (hts (.fieldLink RX6 42 "LitmusHall$Reader" "latePlace" "I") (by decide +kernel)) (fun _ h9 => h9) rfl dX6_noteLate_1 ?_
  refine lv_iconst (v := (-1)) hx hb dX6_noteLate_4 (by decide) ?_
  refine lv_icmp_eq (tgt := 21) hx hb dX6_noteLate_5 (by decide) (fun c_1 => ?_) (fun c_1 => ?_)
  · refine lv_aload_n hx hb dX6_noteLate_21 rfl (lv_at hl 0 rfl) ?_
    refine lv_aload_n hx hb dX6_noteLate_22 rfl (lv_at hl 0 rfl) ?_
    refine va_get (D := D) (ci := 6) (v := .ref k5) (C := RX6) (T := TX6) (N := 12) hx hb hts (fun _ h => List.mem_cons_of_mem _ (List.mem_append_left _ (List.mem_append_right _ h))) hown hK hP 0 rfl rfl 5 (by decide) (hts (.fieldLink RX6 26 "LitmusHall$Reader" "starts" "[I") (by decide +kernel)) (fun _ h9 => h9) rfl dX6_noteLate_23 ?_
    refine lv_iload_n hx hb dX6_noteLate_26 rfl (lv_at hl 1 rfl) ?_
    refine gy_ild (i := t) hx hb hK hP 1 rfl (by omega) (by omega) dX6_noteLate_27 ?_
    refine va_put (D := D) (ci := 6) (v := .int (sf t)) (ty := .int) (C := RX6) (T := TX6) (N := 12) hx hb hts (fun _ h => List.mem_cons_of_mem _ (List.mem_append_left _ (List.mem_append_right _ h))) tyX6 tyX6_ok nmX6 hown hK hP hD hS 0 rfl rfl 3 (by decide) (hts (.fieldLink RX6 42 "LitmusHall$Reader" "latePlace" "I") (by decide +kernel)) (fun _ h9 => h9) rfl (by decide +kernel) rfl rfl (Nat.le_of_ble_eq_true rfl) dX6_noteLate_28 (fun H locs hP hD hS => ?_)
    have hP : va_P D vwCl [(h0, .inr (6, [v0, v1, v2, .int (sf t), v4, .ref k5, v6, v7, v8, v9, v10, v11])), (k5, .inl (cI, 501, .inl sf))] H := hP
    have hD : va_D A [(h0, .inr (6, [v0, v1, v2, .int (sf t), v4, .ref k5, v6, v7, v8, v9, v10, v11])), (k5, .inl (cI, 501, .inl sf))] := hD
    exact gx_vret (w' := [(h0, .inr (6, [v0, v1, v2, .int (sf t), v4, .ref k5, v6, v7, v8, v9, v10, v11])), (k5, .inl (cI, 501, .inl sf))]) hx hb hr hlk hK hP hD hS (Nat.le_of_ble_eq_true rfl) (Nat.le_of_ble_eq_true rfl) dX6_noteLate_31 ⟨(sf t), (by first | exact hsf | exact c_1), (by first | exact rNote_a c_1 | exact rNote_b c_1 | exact rNote_c c_1 c_1), rfl⟩
  · refine lv_aload_n hx hb dX6_noteLate_8 rfl (lv_at hl 0 rfl) ?_
    refine va_get (D := D) (ci := 6) (v := .ref k5) (C := RX6) (T := TX6) (N := 12) hx hb hts (fun _ h => List.mem_cons_of_mem _ (List.mem_append_left _ (List.mem_append_right _ h))) hown hK hP 0 rfl rfl 5 (by decide) (hts (.fieldLink RX6 26 "LitmusHall$Reader" "starts" "[I") (by decide +kernel)) (fun _ h9 => h9) rfl dX6_noteLate_9 ?_
    refine lv_iload_n hx hb dX6_noteLate_12 rfl (lv_at hl 1 rfl) ?_
    refine gy_ild (i := t) hx hb hK hP 1 rfl (by omega) (by omega) dX6_noteLate_13 ?_
    refine lv_aload_n hx hb dX6_noteLate_14 rfl (lv_at hl 0 rfl) ?_
    refine va_get (D := D) (ci := 6) (v := .int lp) (C := RX6) (T := TX6) (N := 12) hx hb hts (fun _ h => List.mem_cons_of_mem _ (List.mem_append_left _ (List.mem_append_right _ h))) hown hK hP 0 rfl rfl 3 (by decide) (hts (.fieldLink RX6 42 "LitmusHall$Reader" "latePlace" "I") (by decide +kernel)) (fun _ h9 => h9) rfl dX6_noteLate_15 ?_
    refine lv_icmp_ge (tgt := 31) hx hb dX6_noteLate_18 (by decide) (fun c_2 => ?_) (fun c_2 => ?_)
    · exact gx_vret (w' := [(h0, .inr (6, [v0, v1, v2, .int lp, v4, .ref k5, v6, v7, v8, v9, v10, v11])), (k5, .inl (cI, 501, .inl sf))]) hx hb hr hlk hK hP hD hS (Nat.le_of_ble_eq_true rfl) (Nat.le_of_ble_eq_true rfl) dX6_noteLate_31 ⟨lp, (by first | exact hsf | exact c_1), (by first | exact rNote_a c_2 | exact rNote_b c_2 | exact rNote_c c_1 c_2), rfl⟩
    · refine lv_aload_n hx hb dX6_noteLate_21 rfl (lv_at hl 0 rfl) ?_
      refine lv_aload_n hx hb dX6_noteLate_22 rfl (lv_at hl 0 rfl) ?_
      refine va_get (D := D) (ci := 6) (v := .ref k5) (C := RX6) (T := TX6) (N := 12) hx hb hts (fun _ h => List.mem_cons_of_mem _ (List.mem_append_left _ (List.mem_append_right _ h))) hown hK hP 0 rfl rfl 5 (by decide) (hts (.fieldLink RX6 26 "LitmusHall$Reader" "starts" "[I") (by decide +kernel)) (fun _ h9 => h9) rfl dX6_noteLate_23 ?_
      refine lv_iload_n hx hb dX6_noteLate_26 rfl (lv_at hl 1 rfl) ?_
      refine gy_ild (i := t) hx hb hK hP 1 rfl (by omega) (by omega) dX6_noteLate_27 ?_
      refine va_put (D := D) (ci := 6) (v := .int (sf t)) (ty := .int) (C := RX6) (T := TX6) (N := 12) hx hb hts (fun _ h => List.mem_cons_of_mem _ (List.mem_append_left _ (List.mem_append_right _ h))) tyX6 tyX6_ok nmX6 hown hK hP hD hS 0 rfl rfl 3 (by decide) (hts (.fieldLink RX6 42 "LitmusHall$Reader" "latePlace" "I") (by decide +kernel)) (fun _ h9 => h9) rfl (by decide +kernel) rfl rfl (Nat.le_of_ble_eq_true rfl) dX6_noteLate_28 (fun H locs hP hD hS => ?_)
      have hP : va_P D vwCl [(h0, .inr (6, [v0, v1, v2, .int (sf t), v4, .ref k5, v6, v7, v8, v9, v10, v11])), (k5, .inl (cI, 501, .inl sf))] H := hP
      have hD : va_D A [(h0, .inr (6, [v0, v1, v2, .int (sf t), v4, .ref k5, v6, v7, v8, v9, v10, v11])), (k5, .inl (cI, 501, .inl sf))] := hD
      exact gx_vret (w' := [(h0, .inr (6, [v0, v1, v2, .int (sf t), v4, .ref k5, v6, v7, v8, v9, v10, v11])), (k5, .inl (cI, 501, .inl sf))]) hx hb hr hlk hK hP hD hS (Nat.le_of_ble_eq_true rfl) (Nat.le_of_ble_eq_true rfl) dX6_noteLate_31 ⟨(sf t), (by first | exact hsf | exact c_1), (by first | exact rNote_a c_2 | exact rNote_b c_2 | exact rNote_c c_1 c_2), rfl⟩
def wsP_x_takeReg : List Cond := .code yX6_takeReg cX6_takeReg 2 (some .boolean) :: (([.fieldLink RX6 22 "LitmusHall$Reader" "kinds" "[I", .fieldLink RX6 45 "LitmusHall$Reader" "at" "I", .methodLink RX6 96 yX6_fail, .instanceMethod yX6_fail, .selects RX6 yX6_fail yX6_fail, .initialized RX6, .fieldLink RX6 122 "LitmusHall$Reader" "valueReg" "I", .methodLink RX6 102 yX6_take, .instanceMethod yX6_take, .selects RX6 yX6_take yX6_take] ++ wsX60) ++ (wsP_c_fail ++ (wsP_x_take ++ [])))
theorem gW_x_takeReg : wsP_x_takeReg.all goodWord = true := by unfold wsP_x_takeReg; exact gw_mk (by decide +kernel) (gw_app gW_c_fail (gw_app gW_x_take rfl))
set_option maxRecDepth 20000 in
theorem gP_x_takeReg__c_fail : GoodIn wsP_x_takeReg (wsV RX6 96 RX6 yX6_fail wsP_c_fail) := gw_in (pre := [.methodLink RX6 96 yX6_fail, .instanceMethod yX6_fail, .selects RX6 yX6_fail yX6_fail, .initialized RX6]) (by decide +kernel) (fun _ h => List.mem_cons_of_mem _ (List.mem_append_right _ (List.mem_append_left _ h))) gW_c_fail
set_option maxRecDepth 20000 in
theorem gP_x_takeReg__x_take : GoodIn wsP_x_takeReg (wsV RX6 102 RX6 yX6_take wsP_x_take) := gw_in (pre := [.methodLink RX6 102 yX6_take, .instanceMethod yX6_take, .selects RX6 yX6_take yX6_take, .initialized RX6]) (by decide +kernel) (fun _ h => List.mem_cons_of_mem _ (List.mem_append_right _ (List.mem_append_right _ (List.mem_append_left _ h)))) gW_x_take
set_option maxHeartbeats 4000000 in
set_option maxRecDepth 100000 in
theorem x_takeReg (l : Launch) (D : va_G) (cI cB cZ : ClassId) (h0 : Nat) (k4 : Nat) (k5 : Nat) (k6 : Nat) (v0 : Value) (v3 : Value) (v7 : Value) (v9 : Value) (v11 : Value) (pv : Int32) (fv : Int32) (Kd : Nat → Nat) (sf : Nat → Int32) (nf : Nat → Int32) (t : Nat) (vr : Int32) (ht : t ≤ 500) (hR : gRdI Kd nf sf) : gMi l yX6_takeReg wsP_x_takeReg ({ frames := 2, cells := 0, slots := 0, locals := 42 }) D cI cB cZ [] [.ref h0] [(h0, .inr (6, [v0, .int pv, .int fv, v3, .ref k4, .ref k5, .ref k6, v7, .int (nI t), v9, .int vr, v11])), (k4, .inl (cI, 501, .inl (fun j => nI (Kd j)))), (k5, .inl (cI, 501, .inl sf)), (k6, .inl (cI, 501, .inl nf))] (fun r9 w9 => ∃ z : Int32, ∃ pv9 : Int32, ∃ fv9 : Int32, ∃ t9 : Nat, ∃ vr9 : Int32, ((z = 0 ∧ ¬ fv9 = 0) ∨ (z = 1 ∧ fv9 = fv ∧ t < t9 ∧ (∃ r, r < 3 ∧ vr9 = nI r))) ∧ (t ≤ t9 ∧ t9 ≤ 500) ∧ (rOut (rReg Kd t) t9 (sf t9) z fv pv fv9 pv9) ∧ (¬ z = 0 → vr9 = nI (Kd t - 13)) ∧ r9 = z ∧ w9 = [(h0, .inr (6, [v0, .int pv9, .int fv9, v3, .ref k4, .ref k5, .ref k6, v7, .int (nI t9), v9, .int vr9, v11])), (k4, .inl (cI, 501, .inl (fun j => nI (Kd j)))), (k5, .inl (cI, 501, .inl sf)), (k6, .inl (cI, 501, .inl nf))]) := by
  refine gMi.of (cc := cX6_takeReg) (maxL := 2) (ret := (some .boolean)) (by decide) rfl (Nat.le_of_ble_eq_true rfl) (fun p e s m below meth c A ls hx hb hr hlk hml hts hown hin hA hP hK hD hS hN hl => ?_)
  have hown : s.vm.findClass RX6 = some m.cls := hown
  have hl : lv_has ls 2 [(0, .ref h0)] := hl
  have hKt := hR.1 t (by omega)
  refine lv_aload_n hx hb dX6_takeReg_0 rfl (lv_at hl 0 rfl) ?_
  refine va_get (D := D) (ci := 6) (v := .ref k4) (C := RX6) (T := TX6) (N := 12) hx hb hts (fun _ h => List.mem_cons_of_mem _ (List.mem_append_left _ (List.mem_append_right _ h))) hown hK hP 0 rfl rfl 4 (by decide) (hts (.fieldLink RX6 22 "LitmusHall$Reader" "kinds" "[I") (by decide +kernel)) (fun _ h9 => h9) rfl dX6_takeReg_1 ?_
  refine lv_aload_n hx hb dX6_takeReg_4 rfl (lv_at hl 0 rfl) ?_
  refine va_get (D := D) (ci := 6) (v := .int (nI t)) (C := RX6) (T := TX6) (N := 12) hx hb hts (fun _ h => List.mem_cons_of_mem _ (List.mem_append_left _ (List.mem_append_right _ h))) hown hK hP 0 rfl rfl 8 (by decide) (hts (.fieldLink RX6 45 "LitmusHall$Reader" "at" "I") (by decide +kernel)) (fun _ h9 => h9) rfl dX6_takeReg_5 ?_
  refine gy_ild (i := t) hx hb hK hP 1 rfl (by omega) (by omega) dX6_takeReg_8 ?_
  refine gx_top (y := nI (Kd t)) rfl ?_
  refine lv_istore_n (lv' := [(1, .int (nI (Kd t))), (0, .ref h0)]) hx hb dX6_takeReg_9 rfl hl (by decide) rfl (fun ls hl => ?_)
  refine lv_iload_n hx hb dX6_takeReg_10 rfl (lv_at hl 0 rfl) ?_
  refine lv_bipush (v := 13) hx hb dX6_takeReg_11 (by decide) ?_
  refine gy_lt (a := (Kd t)) (b := 13) (tgt := 22) hx hb (by omega) (by omega) dX6_takeReg_13 (by decide) (fun c_1 => ?_) (fun c_1 => ?_)
  · refine lv_aload_n hx hb dX6_takeReg_22 rfl (lv_at hl 1 rfl) ?_
    refine lv_iconst (v := 1) hx hb dX6_takeReg_23 (by decide) ?_
    refine gx_goi (wc := [(h0, .inr (6, [v0, .int pv, .int fv, v3, .ref k4, .ref k5, .ref k6, v7, .int (nI t), v9, .int vr, v11])), (k5, .inl (cI, 501, .inl sf))]) (wr := [(k4, .inl (cI, 501, .inl (fun j => nI (Kd j)))), (k6, .inl (cI, 501, .inl nf))]) (va_runV (As := [.int 1]) (rest := []) ⟨hx, hb, hml, hown, hts⟩ (c_fail l D cI cB cZ h0 k5 (v0) (v3) (.ref k4) (.ref k6) (v7) (v9) (.int vr) (v11) pv fv sf t 1 (by omega) _) (cwV 1 hts gP_x_takeReg__c_fail rfl rfl rfl (by decide +kernel) ⟨Nat.le_of_ble_eq_true rfl, Nat.le_of_ble_eq_true rfl⟩) (gx_preV (ci := 6) (q0 := 0) hK gN.nil hP hD [0, 2] rfl rfl rfl rfl) rfl rfl hl.1 rfl (lv_room (Nat.le_of_ble_eq_true rfl)) dX6_takeReg_24 ⟨Nat.le_of_ble_eq_true rfl, Nat.le_of_ble_eq_true rfl⟩) hP hD hS hA [0, 2] [1, 3] rfl rfl rfl (by decide) (fun r1 w1 H locs hp hP hD hS => ?_)
    obtain ⟨h9, rfl⟩ := hp
    have h9 := h9.symm
    subst h9
    have hP := hP.sub (ws' := [(h0, .inr (6, [v0, .int (sf t), .int 1, v3, .ref k4, .ref k5, .ref k6, v7, .int (nI t), v9, .int vr, v11])), (k4, .inl (cI, 501, .inl (fun j => nI (Kd j)))), (k5, .inl (cI, 501, .inl sf)), (k6, .inl (cI, 501, .inl nf))]) [2, 0, 3, 1] rfl
    have hD := hD.sub (ws' := [(h0, .inr (6, [v0, .int (sf t), .int 1, v3, .ref k4, .ref k5, .ref k6, v7, .int (nI t), v9, .int vr, v11])), (k4, .inl (cI, 501, .inl (fun j => nI (Kd j)))), (k5, .inl (cI, 501, .inl sf)), (k6, .inl (cI, 501, .inl nf))]) [2, 0, 3, 1] (by decide) rfl
    exact gx_zret (w' := [(h0, .inr (6, [v0, .int (sf t), .int 1, v3, .ref k4, .ref k5, .ref k6, v7, .int (nI t), v9, .int vr, v11])), (k4, .inl (cI, 501, .inl (fun j => nI (Kd j)))), (k5, .inl (cI, 501, .inl sf)), (k6, .inl (cI, 501, .inl nf))]) hx hb hr hlk hK hP hD hS (Nat.le_of_ble_eq_true rfl) (Nat.le_of_ble_eq_true rfl) dX6_takeReg_27 rfl ⟨0, (sf t), 1, t, vr, (Or.inl ⟨rfl, by decide⟩), (by omega), (rReg_n (by omega)), (fun h => absurd rfl h), rfl, rfl⟩
  · refine lv_iload_n hx hb dX6_takeReg_16 rfl (lv_at hl 0 rfl) ?_
    refine lv_bipush (v := 15) hx hb dX6_takeReg_17 (by decide) ?_
    refine gy_le (a := (Kd t)) (b := 15) (tgt := 28) hx hb (by omega) (by omega) dX6_takeReg_19 (by decide) (fun c_2 => ?_) (fun c_2 => ?_)
    · refine lv_aload_n hx hb dX6_takeReg_28 rfl (lv_at hl 1 rfl) ?_
      refine lv_iload_n hx hb dX6_takeReg_29 rfl (lv_at hl 0 rfl) ?_
      refine lv_bipush (v := 13) hx hb dX6_takeReg_30 (by decide) ?_
      refine lv_isub hx hb dX6_takeReg_32 ?_
      refine gx_top (y := nI ((Kd t) - 13)) (pk_sub (a := Kd t) (b := 13) (by omega)) ?_
      refine va_put (D := D) (ci := 6) (v := .int (nI ((Kd t) - 13))) (ty := .int) (C := RX6) (T := TX6) (N := 12) hx hb hts (fun _ h => List.mem_cons_of_mem _ (List.mem_append_left _ (List.mem_append_right _ h))) tyX6 tyX6_ok nmX6 hown hK hP hD hS 0 rfl rfl 10 (by decide) (hts (.fieldLink RX6 122 "LitmusHall$Reader" "valueReg" "I") (by decide +kernel)) (fun _ h9 => h9) rfl (by decide +kernel) rfl rfl (Nat.le_of_ble_eq_true rfl) dX6_takeReg_33 (fun H locs hP hD hS => ?_)
      have hP : va_P D vwCl [(h0, .inr (6, [v0, .int pv, .int fv, v3, .ref k4, .ref k5, .ref k6, v7, .int (nI t), v9, .int (nI ((Kd t) - 13)), v11])), (k4, .inl (cI, 501, .inl (fun j => nI (Kd j)))), (k5, .inl (cI, 501, .inl sf)), (k6, .inl (cI, 501, .inl nf))] H := hP
      have hD : va_D A [(h0, .inr (6, [v0, .int pv, .int fv, v3, .ref k4, .ref k5, .ref k6, v7, .int (nI t), v9, .int (nI ((Kd t) - 13)), v11])), (k4, .inl (cI, 501, .inl (fun j => nI (Kd j)))), (k5, .inl (cI, 501, .inl sf)), (k6, .inl (cI, 501, .inl nf))] := hD
      refine lv_aload_n hx hb dX6_takeReg_36 rfl (lv_at hl 1 rfl) ?_
      refine lv_iload_n hx hb dX6_takeReg_37 rfl (lv_at hl 0 rfl) ?_
      refine gx_goi (wc := [(h0, .inr (6, [v0, .int pv, .int fv, v3, .ref k4, .ref k5, .ref k6, v7, .int (nI t), v9, .int (nI ((Kd t) - 13)), v11])), (k4, .inl (cI, 501, .inl (fun j => nI (Kd j)))), (k5, .inl (cI, 501, .inl sf))]) (wr := [(k6, .inl (cI, 501, .inl nf))]) (va_runV (As := [.int (nI (Kd t))]) (rest := []) ⟨hx, hb, hml, hown, hts⟩ (x_take l D cI cB cZ h0 k4 k5 (v0) (v3) (.ref k6) (v7) (v9) (.int (nI ((Kd t) - 13))) (v11) pv fv Kd sf t (Kd t) (by omega) (hR.1 _ (by omega)) (by first | decide | omega | exact hR.1 _ (by omega)) _) (cwV 1 hts gP_x_takeReg__x_take rfl rfl rfl (by decide +kernel) ⟨Nat.le_of_ble_eq_true rfl, Nat.le_of_ble_eq_true rfl⟩) (gx_preV (ci := 6) (q0 := 0) hK gN.nil hP hD [0, 1, 2] rfl rfl rfl rfl) rfl rfl hl.1 rfl (lv_room (Nat.le_of_ble_eq_true rfl)) dX6_takeReg_38 ⟨Nat.le_of_ble_eq_true rfl, Nat.le_of_ble_eq_true rfl⟩) hP hD hS hA [0, 1, 2] [3] rfl rfl rfl (by decide) (fun r1 w1 H locs hp hP hD hS => ?_)
      obtain ⟨e_3, e_4, e_5, e_6, hq_7, hx38_0, h9, rfl⟩ := hp
      have h9 := h9.symm
      subst h9
      have hq_7 : (e_3 = 0 ∧ e_6 = t ∧ ¬ e_5 = 0) ∨ (e_3 = 1 ∧ e_6 = t + 1 ∧ t < 500 ∧ nI (Kd t) = nI (Kd t) ∧ e_5 = fv) := hq_7
      have hx38_0 : rOut (rTake Kd (Kd t) t) e_6 (sf e_6) e_3 fv pv e_5 e_4 := hx38_0
      have htk := hq_7
      have htt := gTk0 htk (by omega)
      have hP := hP.sub (ws' := [(h0, .inr (6, [v0, .int e_4, .int e_5, v3, .ref k4, .ref k5, .ref k6, v7, .int (nI e_6), v9, .int (nI ((Kd t) - 13)), v11])), (k4, .inl (cI, 501, .inl (fun j => nI (Kd j)))), (k5, .inl (cI, 501, .inl sf)), (k6, .inl (cI, 501, .inl nf))]) [1, 2, 3, 0] rfl
      have hD := hD.sub (ws' := [(h0, .inr (6, [v0, .int e_4, .int e_5, v3, .ref k4, .ref k5, .ref k6, v7, .int (nI e_6), v9, .int (nI ((Kd t) - 13)), v11])), (k4, .inl (cI, 501, .inl (fun j => nI (Kd j)))), (k5, .inl (cI, 501, .inl sf)), (k6, .inl (cI, 501, .inl nf))]) [1, 2, 3, 0] (by decide) rfl
      exact gx_zret (w' := [(h0, .inr (6, [v0, .int e_4, .int e_5, v3, .ref k4, .ref k5, .ref k6, v7, .int (nI e_6), v9, .int (nI ((Kd t) - 13)), v11])), (k4, .inl (cI, 501, .inl (fun j => nI (Kd j)))), (k5, .inl (cI, 501, .inl sf)), (k6, .inl (cI, 501, .inl nf))]) hx hb hr hlk hK hP hD hS (Nat.le_of_ble_eq_true rfl) (Nat.le_of_ble_eq_true rfl) dX6_takeReg_41 (gy_z01 (gTk1 htk)) ⟨e_3, e_4, e_5, e_6, (nI ((Kd t) - 13)), (gTk2 htk ⟨_, by omega, rfl⟩), htt, (rOut_e (rReg_y (by omega)) hx38_0), (fun _ => rfl), rfl, rfl⟩
    · refine lv_aload_n hx hb dX6_takeReg_22 rfl (lv_at hl 1 rfl) ?_
      refine lv_iconst (v := 1) hx hb dX6_takeReg_23 (by decide) ?_
      refine gx_goi (wc := [(h0, .inr (6, [v0, .int pv, .int fv, v3, .ref k4, .ref k5, .ref k6, v7, .int (nI t), v9, .int vr, v11])), (k5, .inl (cI, 501, .inl sf))]) (wr := [(k4, .inl (cI, 501, .inl (fun j => nI (Kd j)))), (k6, .inl (cI, 501, .inl nf))]) (va_runV (As := [.int 1]) (rest := []) ⟨hx, hb, hml, hown, hts⟩ (c_fail l D cI cB cZ h0 k5 (v0) (v3) (.ref k4) (.ref k6) (v7) (v9) (.int vr) (v11) pv fv sf t 1 (by omega) _) (cwV 1 hts gP_x_takeReg__c_fail rfl rfl rfl (by decide +kernel) ⟨Nat.le_of_ble_eq_true rfl, Nat.le_of_ble_eq_true rfl⟩) (gx_preV (ci := 6) (q0 := 0) hK gN.nil hP hD [0, 2] rfl rfl rfl rfl) rfl rfl hl.1 rfl (lv_room (Nat.le_of_ble_eq_true rfl)) dX6_takeReg_24 ⟨Nat.le_of_ble_eq_true rfl, Nat.le_of_ble_eq_true rfl⟩) hP hD hS hA [0, 2] [1, 3] rfl rfl rfl (by decide) (fun r1 w1 H locs hp hP hD hS => ?_)
      obtain ⟨h9, rfl⟩ := hp
      have h9 := h9.symm
      subst h9
      have hP := hP.sub (ws' := [(h0, .inr (6, [v0, .int (sf t), .int 1, v3, .ref k4, .ref k5, .ref k6, v7, .int (nI t), v9, .int vr, v11])), (k4, .inl (cI, 501, .inl (fun j => nI (Kd j)))), (k5, .inl (cI, 501, .inl sf)), (k6, .inl (cI, 501, .inl nf))]) [2, 0, 3, 1] rfl
      have hD := hD.sub (ws' := [(h0, .inr (6, [v0, .int (sf t), .int 1, v3, .ref k4, .ref k5, .ref k6, v7, .int (nI t), v9, .int vr, v11])), (k4, .inl (cI, 501, .inl (fun j => nI (Kd j)))), (k5, .inl (cI, 501, .inl sf)), (k6, .inl (cI, 501, .inl nf))]) [2, 0, 3, 1] (by decide) rfl
      exact gx_zret (w' := [(h0, .inr (6, [v0, .int (sf t), .int 1, v3, .ref k4, .ref k5, .ref k6, v7, .int (nI t), v9, .int vr, v11])), (k4, .inl (cI, 501, .inl (fun j => nI (Kd j)))), (k5, .inl (cI, 501, .inl sf)), (k6, .inl (cI, 501, .inl nf))]) hx hb hr hlk hK hP hD hS (Nat.le_of_ble_eq_true rfl) (Nat.le_of_ble_eq_true rfl) dX6_takeReg_27 rfl ⟨0, (sf t), 1, t, vr, (Or.inl ⟨rfl, by decide⟩), (by omega), (rReg_n (by omega)), (fun h => absurd rfl h), rfl, rfl⟩
def wsP_x_takeCell : List Cond := .code yX6_takeCell cX6_takeCell 1 (some .boolean) :: (([.fieldLink RX6 29 "LitmusHall$Reader" "numbers" "[I", .fieldLink RX6 45 "LitmusHall$Reader" "at" "I", .fieldLink RX6 108 "LitmusHall$Reader" "value" "I", .methodLink RX6 102 yX6_take, .instanceMethod yX6_take, .selects RX6 yX6_take yX6_take, .initialized RX6, .methodLink RX6 115 yX6_noteLate, .instanceMethod yX6_noteLate, .selects RX6 yX6_noteLate yX6_noteLate] ++ wsX60) ++ (wsP_x_take ++ (wsP_x_noteLate ++ [])))
theorem gW_x_takeCell : wsP_x_takeCell.all goodWord = true := by unfold wsP_x_takeCell; exact gw_mk (by decide +kernel) (gw_app gW_x_take (gw_app gW_x_noteLate rfl))
set_option maxRecDepth 20000 in
theorem gP_x_takeCell__x_take : GoodIn wsP_x_takeCell (wsV RX6 102 RX6 yX6_take wsP_x_take) := gw_in (pre := [.methodLink RX6 102 yX6_take, .instanceMethod yX6_take, .selects RX6 yX6_take yX6_take, .initialized RX6]) (by decide +kernel) (fun _ h => List.mem_cons_of_mem _ (List.mem_append_right _ (List.mem_append_left _ h))) gW_x_take
set_option maxRecDepth 20000 in
theorem gP_x_takeCell__x_noteLate : GoodIn wsP_x_takeCell (wsV RX6 115 RX6 yX6_noteLate wsP_x_noteLate) := gw_in (pre := [.methodLink RX6 115 yX6_noteLate, .instanceMethod yX6_noteLate, .selects RX6 yX6_noteLate yX6_noteLate, .initialized RX6]) (by decide +kernel) (fun _ h => List.mem_cons_of_mem _ (List.mem_append_right _ (List.mem_append_right _ (List.mem_append_left _ h)))) gW_x_noteLate
set_option maxHeartbeats 4000000 in
set_option maxRecDepth 100000 in
theorem x_takeCell (l : Launch) (D : va_G) (cI cB cZ : ClassId) (h0 : Nat) (k4 : Nat) (k5 : Nat) (k6 : Nat) (v0 : Value) (v7 : Value) (v9 : Value) (v10 : Value) (pv : Int32) (fv : Int32) (Kd : Nat → Nat) (sf : Nat → Int32) (nf : Nat → Int32) (t : Nat) (vl : Int32) (lp : Int32) (ht : t ≤ 500) (hR : gRdI Kd nf sf) : gMi l yX6_takeCell wsP_x_takeCell ({ frames := 2, cells := 0, slots := 0, locals := 42 }) D cI cB cZ [] [.ref h0] [(h0, .inr (6, [v0, .int pv, .int fv, .int lp, .ref k4, .ref k5, .ref k6, v7, .int (nI t), v9, v10, .int vl])), (k4, .inl (cI, 501, .inl (fun j => nI (Kd j)))), (k5, .inl (cI, 501, .inl sf)), (k6, .inl (cI, 501, .inl nf))] (fun r9 w9 => ∃ z : Int32, ∃ pv9 : Int32, ∃ fv9 : Int32, ∃ t9 : Nat, ∃ vl9 : Int32, ∃ lp9 : Int32, ((z = 0 ∧ ¬ fv9 = 0) ∨ (z = 1 ∧ fv9 = fv ∧ t < t9 ∧ (∃ x, x ≤ 999 ∧ vl9 = nI x ∧ (lp9 = (-1) → x < 4)))) ∧ (t ≤ t9 ∧ t9 ≤ 500) ∧ (lp9 = (-1) → lp = (-1)) ∧ (rOut (rTake Kd 16 t) t9 (sf t9) z fv pv fv9 pv9) ∧ (¬ z = 0 → vl9 = nf t ∧ lp9 = rPl sf nf 1 t lp) ∧ r9 = z ∧ w9 = [(h0, .inr (6, [v0, .int pv9, .int fv9, .int lp9, .ref k4, .ref k5, .ref k6, v7, .int (nI t9), v9, v10, .int vl9])), (k4, .inl (cI, 501, .inl (fun j => nI (Kd j)))), (k5, .inl (cI, 501, .inl sf)), (k6, .inl (cI, 501, .inl nf))]) := by
  refine gMi.of (cc := cX6_takeCell) (maxL := 1) (ret := (some .boolean)) (by decide) rfl (Nat.le_of_ble_eq_true rfl) (fun p e s m below meth c A ls hx hb hr hlk hml hts hown hin hA hP hK hD hS hN hl => ?_)
  have hown : s.vm.findClass RX6 = some m.cls := hown
  have hl : lv_has ls 1 [(0, .ref h0)] := hl
  refine lv_aload_n hx hb dX6_takeCell_0 rfl (lv_at hl 0 rfl) ?_
  refine lv_aload_n hx hb dX6_takeCell_1 rfl (lv_at hl 0 rfl) ?_
  refine va_get (D := D) (ci := 6) (v := .ref k6) (C := RX6) (T := TX6) (N := 12) hx hb hts (fun _ h => List.mem_cons_of_mem _ (List.mem_append_left _ (List.mem_append_right _ h))) hown hK hP 0 rfl rfl 6 (by decide) (hts (.fieldLink RX6 29 "LitmusHall$Reader" "numbers" "[I") (by decide +kernel)) (fun _ h9 => h9) rfl dX6_takeCell_2 ?_
  refine lv_aload_n hx hb dX6_takeCell_5 rfl (lv_at hl 0 rfl) ?_
  refine va_get (D := D) (ci := 6) (v := .int (nI t)) (C := RX6) (T := TX6) (N := 12) hx hb hts (fun _ h => List.mem_cons_of_mem _ (List.mem_append_left _ (List.mem_append_right _ h))) hown hK hP 0 rfl rfl 8 (by decide) (hts (.fieldLink RX6 45 "LitmusHall$Reader" "at" "I") (by decide +kernel)) (fun _ h9 => h9) rfl dX6_takeCell_6 ?_
  refine gy_ild (i := t) hx hb hK hP 3 rfl (by omega) (by omega) dX6_takeCell_9 ?_
  refine gx_gene (fun nv9 hnv9 => ?_)
  refine va_put (D := D) (ci := 6) (v := .int nv9) (ty := .int) (C := RX6) (T := TX6) (N := 12) hx hb hts (fun _ h => List.mem_cons_of_mem _ (List.mem_append_left _ (List.mem_append_right _ h))) tyX6 tyX6_ok nmX6 hown hK hP hD hS 0 rfl rfl 11 (by decide) (hts (.fieldLink RX6 108 "LitmusHall$Reader" "value" "I") (by decide +kernel)) (fun _ h9 => h9) rfl (by decide +kernel) rfl rfl (Nat.le_of_ble_eq_true rfl) dX6_takeCell_10 (fun H locs hP hD hS => ?_)
  have hP : va_P D vwCl [(h0, .inr (6, [v0, .int pv, .int fv, .int lp, .ref k4, .ref k5, .ref k6, v7, .int (nI t), v9, v10, .int nv9])), (k4, .inl (cI, 501, .inl (fun j => nI (Kd j)))), (k5, .inl (cI, 501, .inl sf)), (k6, .inl (cI, 501, .inl nf))] H := hP
  have hD : va_D A [(h0, .inr (6, [v0, .int pv, .int fv, .int lp, .ref k4, .ref k5, .ref k6, v7, .int (nI t), v9, v10, .int nv9])), (k4, .inl (cI, 501, .inl (fun j => nI (Kd j)))), (k5, .inl (cI, 501, .inl sf)), (k6, .inl (cI, 501, .inl nf))] := hD
  refine lv_aload_n hx hb dX6_takeCell_13 rfl (lv_at hl 0 rfl) ?_
  refine lv_bipush (v := 16) hx hb dX6_takeCell_14 (by decide) ?_
  refine gx_goi (wc := [(h0, .inr (6, [v0, .int pv, .int fv, .int lp, .ref k4, .ref k5, .ref k6, v7, .int (nI t), v9, v10, .int nv9])), (k4, .inl (cI, 501, .inl (fun j => nI (Kd j)))), (k5, .inl (cI, 501, .inl sf))]) (wr := [(k6, .inl (cI, 501, .inl nf))]) (va_runV (As := [.int 16]) (rest := []) ⟨hx, hb, hml, hown, hts⟩ (x_take l D cI cB cZ h0 k4 k5 (v0) (.int lp) (.ref k6) (v7) (v9) (v10) (.int nv9) pv fv Kd sf t 16 (by omega) (hR.1 _ (by omega)) (by first | decide | omega | exact hR.1 _ (by omega)) _) (cwV 1 hts gP_x_takeCell__x_take rfl rfl rfl (by decide +kernel) ⟨Nat.le_of_ble_eq_true rfl, Nat.le_of_ble_eq_true rfl⟩) (gx_preV (ci := 6) (q0 := 0) hK gN.nil hP hD [0, 1, 2] rfl rfl rfl rfl) rfl rfl hl.1 rfl (lv_room (Nat.le_of_ble_eq_true rfl)) dX6_takeCell_16 ⟨Nat.le_of_ble_eq_true rfl, Nat.le_of_ble_eq_true rfl⟩) hP hD hS hA [0, 1, 2] [3] rfl rfl rfl (by decide) (fun r1 w1 H locs hp hP hD hS => ?_)
  obtain ⟨e_1, e_2, e_3, e_4, hq_5, hx16_0, h9, rfl⟩ := hp
  have h9 := h9.symm
  subst h9
  have hq_5 : (e_1 = 0 ∧ e_4 = t ∧ ¬ e_3 = 0) ∨ (e_1 = 1 ∧ e_4 = t + 1 ∧ t < 500 ∧ nI (Kd t) = nI 16 ∧ e_3 = fv) := hq_5
  have hx16_0 : rOut (rTake Kd 16 t) e_4 (sf e_4) e_1 fv pv e_3 e_2 := hx16_0
  have htk := hq_5
  have htt := gTk0 htk (by omega)
  refine lv_if_ne (tgt := 24) hx hb dX6_takeCell_19 (by decide) (fun c_6 => ?_) (fun c_6 => ?_)
  · have hty := gTkY (z := _) (htk.imp id id) c_6
    have hk16 : Kd t = 16 := (nI_eq (a := Kd t) (b := 16) (by have := hR.1 t (by omega); omega) (by decide)).mp (hty.2.2.1)
    obtain ⟨mm, hmm, emm⟩ := hR.2.1 t (by omega) hk16
    obtain rfl : nv9 = nI mm := hnv9.trans emm
    have hz16 := c_6
    have hl : lv_has ls 1 [(0, .ref h0)] := hl
    refine lv_aload_n hx hb dX6_takeCell_24 rfl (lv_at hl 0 rfl) ?_
    refine va_get (D := D) (ci := 6) (v := .int (nI mm)) (C := RX6) (T := TX6) (N := 12) hx hb hts (fun _ h => List.mem_cons_of_mem _ (List.mem_append_left _ (List.mem_append_right _ h))) hown hK hP 1 rfl rfl 11 (by decide) (hts (.fieldLink RX6 108 "LitmusHall$Reader" "value" "I") (by decide +kernel)) (fun _ h9 => h9) rfl dX6_takeCell_25 ?_
    refine lv_iconst (v := 4) hx hb dX6_takeCell_28 (by decide) ?_
    refine gy_lt (a := mm) (b := 4) (tgt := 42) hx hb (by omega) (by omega) dX6_takeCell_29 (by decide) (fun c_7 => ?_) (fun c_7 => ?_)
    · refine lv_iconst (v := 1) hx hb dX6_takeCell_42 (by decide) ?_
      have hP := hP.sub (ws' := [(h0, .inr (6, [v0, .int e_2, .int e_3, .int lp, .ref k4, .ref k5, .ref k6, v7, .int (nI e_4), v9, v10, .int (nI mm)])), (k4, .inl (cI, 501, .inl (fun j => nI (Kd j)))), (k5, .inl (cI, 501, .inl sf)), (k6, .inl (cI, 501, .inl nf))]) [1, 2, 3, 0] rfl
      have hD := hD.sub (ws' := [(h0, .inr (6, [v0, .int e_2, .int e_3, .int lp, .ref k4, .ref k5, .ref k6, v7, .int (nI e_4), v9, v10, .int (nI mm)])), (k4, .inl (cI, 501, .inl (fun j => nI (Kd j)))), (k5, .inl (cI, 501, .inl sf)), (k6, .inl (cI, 501, .inl nf))]) [1, 2, 3, 0] (by decide) rfl
      exact gx_zret (w' := [(h0, .inr (6, [v0, .int e_2, .int e_3, .int lp, .ref k4, .ref k5, .ref k6, v7, .int (nI e_4), v9, v10, .int (nI mm)])), (k4, .inl (cI, 501, .inl (fun j => nI (Kd j)))), (k5, .inl (cI, 501, .inl sf)), (k6, .inl (cI, 501, .inl nf))]) hx hb hr hlk hK hP hD hS (Nat.le_of_ble_eq_true rfl) (Nat.le_of_ble_eq_true rfl) dX6_takeCell_43 rfl ⟨1, e_2, e_3, e_4, (nI mm), lp, (Or.inr ⟨rfl, hty.2.2.2, by omega, mm, hmm, rfl, by first | exact fun h => absurd h hln | exact fun _ => by omega⟩), htt, (by first | exact fun h => absurd h hln | exact fun h => h), (rOut_1 hx16_0 hz16), (by first | exact fun _ => ⟨emm.symm, rPl_1 emm (by omega) hmm (by omega) hx39_0⟩ | exact fun _ => ⟨emm.symm, rPl_0 emm (by omega)⟩), rfl, rfl⟩
    · refine lv_aload_n hx hb dX6_takeCell_32 rfl (lv_at hl 0 rfl) ?_
      refine lv_aload_n hx hb dX6_takeCell_33 rfl (lv_at hl 0 rfl) ?_
      refine va_get (D := D) (ci := 6) (v := .int (nI e_4)) (C := RX6) (T := TX6) (N := 12) hx hb hts (fun _ h => List.mem_cons_of_mem _ (List.mem_append_left _ (List.mem_append_right _ h))) hown hK hP 1 rfl rfl 8 (by decide) (hts (.fieldLink RX6 45 "LitmusHall$Reader" "at" "I") (by decide +kernel)) (fun _ h9 => h9) rfl dX6_takeCell_34 ?_
      refine lv_iconst (v := 1) hx hb dX6_takeCell_37 (by decide) ?_
      refine lv_isub hx hb dX6_takeCell_38 ?_
      refine gx_top (y := nI (e_4 - 1)) (pk_sub (a := e_4) (b := 1) (by omega)) ?_
      refine gx_gov (wc := [(h0, .inr (6, [v0, .int e_2, .int e_3, .int lp, .ref k4, .ref k5, .ref k6, v7, .int (nI e_4), v9, v10, .int (nI mm)])), (k5, .inl (cI, 501, .inl sf))]) (wr := [(k6, .inl (cI, 501, .inl nf)), (k4, .inl (cI, 501, .inl (fun j => nI (Kd j))))]) (va_runV (As := [.int (nI (e_4 - 1))]) (rest := []) ⟨hx, hb, hml, hown, hts⟩ (x_noteLate l D cI cB cZ h0 k5 (v0) (.int e_2) (.int e_3) (.ref k4) (.ref k6) (v7) (.int (nI e_4)) (v9) (v10) (.int (nI mm)) lp sf (e_4 - 1) (by omega) (hR.2.2 _ (by omega)) _) (cwV 1 hts gP_x_takeCell__x_noteLate rfl rfl rfl (by decide +kernel) ⟨Nat.le_of_ble_eq_true rfl, Nat.le_of_ble_eq_true rfl⟩) (gx_preV (ci := 6) (q0 := 0) hK gN.nil hP hD [1, 3] rfl rfl rfl rfl) rfl rfl hl.1 rfl (lv_room (Nat.le_of_ble_eq_true rfl)) dX6_takeCell_39 ⟨Nat.le_of_ble_eq_true rfl, Nat.le_of_ble_eq_true rfl⟩) hP hD hS hA [1, 3] [0, 2] rfl rfl rfl (by decide) (fun w1 H locs hp hP hD hS => ?_)
      obtain ⟨e_8, hq_9, hx39_0, rfl⟩ := hp
      have hq_9 : ¬ e_8 = (-1) := hq_9
      have hx39_0 : e_8 = rNote lp (sf (e_4 - 1)) := hx39_0
      have hln := hq_9
      refine lv_iconst (v := 1) hx hb dX6_takeCell_42 (by decide) ?_
      have hP := hP.sub (ws' := [(h0, .inr (6, [v0, .int e_2, .int e_3, .int e_8, .ref k4, .ref k5, .ref k6, v7, .int (nI e_4), v9, v10, .int (nI mm)])), (k4, .inl (cI, 501, .inl (fun j => nI (Kd j)))), (k5, .inl (cI, 501, .inl sf)), (k6, .inl (cI, 501, .inl nf))]) [2, 1, 3, 0] rfl
      have hD := hD.sub (ws' := [(h0, .inr (6, [v0, .int e_2, .int e_3, .int e_8, .ref k4, .ref k5, .ref k6, v7, .int (nI e_4), v9, v10, .int (nI mm)])), (k4, .inl (cI, 501, .inl (fun j => nI (Kd j)))), (k5, .inl (cI, 501, .inl sf)), (k6, .inl (cI, 501, .inl nf))]) [2, 1, 3, 0] (by decide) rfl
      exact gx_zret (w' := [(h0, .inr (6, [v0, .int e_2, .int e_3, .int e_8, .ref k4, .ref k5, .ref k6, v7, .int (nI e_4), v9, v10, .int (nI mm)])), (k4, .inl (cI, 501, .inl (fun j => nI (Kd j)))), (k5, .inl (cI, 501, .inl sf)), (k6, .inl (cI, 501, .inl nf))]) hx hb hr hlk hK hP hD hS (Nat.le_of_ble_eq_true rfl) (Nat.le_of_ble_eq_true rfl) dX6_takeCell_43 rfl ⟨1, e_2, e_3, e_4, (nI mm), e_8, (Or.inr ⟨rfl, hty.2.2.2, by omega, mm, hmm, rfl, by first | exact fun h => absurd h hln | exact fun _ => by omega⟩), htt, (by first | exact fun h => absurd h hln | exact fun h => h), (rOut_1 hx16_0 hz16), (by first | exact fun _ => ⟨emm.symm, rPl_1 emm (by omega) hmm (by omega) hx39_0⟩ | exact fun _ => ⟨emm.symm, rPl_0 emm (by omega)⟩), rfl, rfl⟩
  · refine lv_iconst (v := 0) hx hb dX6_takeCell_22 (by decide) ?_
    have hP := hP.sub (ws' := [(h0, .inr (6, [v0, .int e_2, .int e_3, .int lp, .ref k4, .ref k5, .ref k6, v7, .int (nI e_4), v9, v10, .int nv9])), (k4, .inl (cI, 501, .inl (fun j => nI (Kd j)))), (k5, .inl (cI, 501, .inl sf)), (k6, .inl (cI, 501, .inl nf))]) [1, 2, 3, 0] rfl
    have hD := hD.sub (ws' := [(h0, .inr (6, [v0, .int e_2, .int e_3, .int lp, .ref k4, .ref k5, .ref k6, v7, .int (nI e_4), v9, v10, .int nv9])), (k4, .inl (cI, 501, .inl (fun j => nI (Kd j)))), (k5, .inl (cI, 501, .inl sf)), (k6, .inl (cI, 501, .inl nf))]) [1, 2, 3, 0] (by decide) rfl
    exact gx_zret (w' := [(h0, .inr (6, [v0, .int e_2, .int e_3, .int lp, .ref k4, .ref k5, .ref k6, v7, .int (nI e_4), v9, v10, .int nv9])), (k4, .inl (cI, 501, .inl (fun j => nI (Kd j)))), (k5, .inl (cI, 501, .inl sf)), (k6, .inl (cI, 501, .inl nf))]) hx hb hr hlk hK hP hD hS (Nat.le_of_ble_eq_true rfl) (Nat.le_of_ble_eq_true rfl) dX6_takeCell_23 rfl ⟨0, e_2, e_3, e_4, nv9, lp, (Or.inl ⟨rfl, by rcases htk with h | h; exact h.2.2; exact absurd (h.1.symm.trans c_6) (by decide)⟩), htt, (fun h => h), (rOut_0 hx16_0 c_6), (fun h => absurd rfl h), rfl, rfl⟩
def wsP_x_takeVal0 : List Cond := .code yX6_takeVal cX6_takeVal 3 (some .boolean) :: (([.fieldLink RX6 22 "LitmusHall$Reader" "kinds" "[I", .fieldLink RX6 45 "LitmusHall$Reader" "at" "I", .fieldLink RX6 122 "LitmusHall$Reader" "valueReg" "I", .fieldLink RX6 29 "LitmusHall$Reader" "numbers" "[I", .fieldLink RX6 108 "LitmusHall$Reader" "value" "I", .methodLink RX6 102 yX6_take, .instanceMethod yX6_take, .selects RX6 yX6_take yX6_take, .initialized RX6] ++ wsX60) ++ (wsP_x_take ++ []))
theorem gW_x_takeVal0 : wsP_x_takeVal0.all goodWord = true := by unfold wsP_x_takeVal0; exact gw_mk (by decide +kernel) (gw_app gW_x_take rfl)
set_option maxRecDepth 20000 in
theorem gP_x_takeVal0__x_take : GoodIn wsP_x_takeVal0 (wsV RX6 102 RX6 yX6_take wsP_x_take) := gw_in (pre := [.methodLink RX6 102 yX6_take, .instanceMethod yX6_take, .selects RX6 yX6_take yX6_take, .initialized RX6]) (by decide +kernel) (fun _ h => List.mem_cons_of_mem _ (List.mem_append_right _ (List.mem_append_left _ h))) gW_x_take
set_option maxHeartbeats 4000000 in
set_option maxRecDepth 100000 in
theorem x_takeVal0 (l : Launch) (D : va_G) (cI cB cZ : ClassId) (h0 : Nat) (k4 : Nat) (k5 : Nat) (k6 : Nat) (v0 : Value) (v3 : Value) (v7 : Value) (v9 : Value) (pv : Int32) (fv : Int32) (Kd : Nat → Nat) (sf : Nat → Int32) (nf : Nat → Int32) (t : Nat) (vl : Int32) (vr : Int32) (ht : t ≤ 500) (hR : gRdI Kd nf sf) : gMi l yX6_takeVal wsP_x_takeVal0 ({ frames := 2, cells := 0, slots := 0, locals := 42 }) D cI cB cZ [] [.ref h0, .int 0] [(h0, .inr (6, [v0, .int pv, .int fv, v3, .ref k4, .ref k5, .ref k6, v7, .int (nI t), v9, .int vr, .int vl])), (k4, .inl (cI, 501, .inl (fun j => nI (Kd j)))), (k5, .inl (cI, 501, .inl sf)), (k6, .inl (cI, 501, .inl nf))] (fun r9 w9 => ∃ z : Int32, ∃ pv9 : Int32, ∃ fv9 : Int32, ∃ t9 : Nat, ∃ vl9 : Int32, ∃ vr9 : Int32, ((z = 0 ∧ ¬ fv9 = 0) ∨ (z = 1 ∧ fv9 = fv ∧ t < t9 ∧ (vr9 = (-1) ∨ ∃ r, r < 3 ∧ vr9 = nI r))) ∧ (t ≤ t9 ∧ t9 ≤ 500) ∧ (rOut (rInt Kd t) t9 (sf t9) z fv pv fv9 pv9) ∧ (¬ z = 0 → vr9 = (-1) ∧ vl9 = vInt Kd nf t) ∧ r9 = z ∧ w9 = [(h0, .inr (6, [v0, .int pv9, .int fv9, v3, .ref k4, .ref k5, .ref k6, v7, .int (nI t9), v9, .int vr9, .int vl9])), (k4, .inl (cI, 501, .inl (fun j => nI (Kd j)))), (k5, .inl (cI, 501, .inl sf)), (k6, .inl (cI, 501, .inl nf))]) := by
  refine gMi.of (cc := cX6_takeVal) (maxL := 3) (ret := (some .boolean)) (by decide) rfl (Nat.le_of_ble_eq_true rfl) (fun p e s m below meth c A ls hx hb hr hlk hml hts hown hin hA hP hK hD hS hN hl => ?_)
  have hown : s.vm.findClass RX6 = some m.cls := hown
  have hl : lv_has ls 3 [(0, .ref h0), (1, .int 0)] := hl
  have hKt := hR.1 t (by omega)
  refine lv_aload_n hx hb dX6_takeVal_0 rfl (lv_at hl 0 rfl) ?_
  refine va_get (D := D) (ci := 6) (v := .ref k4) (C := RX6) (T := TX6) (N := 12) hx hb hts (fun _ h => List.mem_cons_of_mem _ (List.mem_append_left _ (List.mem_append_right _ h))) hown hK hP 0 rfl rfl 4 (by decide) (hts (.fieldLink RX6 22 "LitmusHall$Reader" "kinds" "[I") (by decide +kernel)) (fun _ h9 => h9) rfl dX6_takeVal_1 ?_
  refine lv_aload_n hx hb dX6_takeVal_4 rfl (lv_at hl 0 rfl) ?_
  refine va_get (D := D) (ci := 6) (v := .int (nI t)) (C := RX6) (T := TX6) (N := 12) hx hb hts (fun _ h => List.mem_cons_of_mem _ (List.mem_append_left _ (List.mem_append_right _ h))) hown hK hP 0 rfl rfl 8 (by decide) (hts (.fieldLink RX6 45 "LitmusHall$Reader" "at" "I") (by decide +kernel)) (fun _ h9 => h9) rfl dX6_takeVal_5 ?_
  refine gy_ild (i := t) hx hb hK hP 1 rfl (by omega) (by omega) dX6_takeVal_8 ?_
  refine gx_top (y := nI (Kd t)) rfl ?_
  refine lv_istore_n (lv' := [(2, .int (nI (Kd t))), (0, .ref h0), (1, .int 0)]) hx hb dX6_takeVal_9 rfl hl (by decide) rfl (fun ls hl => ?_)
  refine lv_iload_n hx hb dX6_takeVal_10 rfl (lv_at hl 2 rfl) ?_
  refine lv_if_eq (tgt := 45) hx hb dX6_takeVal_11 (by decide) (fun _ => ?_) (fun c9 => absurd (by decide) c9)
  refine lv_iload_n hx hb dX6_takeVal_45 rfl (lv_at hl 0 rfl) ?_
  refine lv_bipush (v := 20) hx hb dX6_takeVal_46 (by decide) ?_
  refine gy_ne (a := (Kd t)) (b := 20) (tgt := 62) hx hb (by omega) (by omega) dX6_takeVal_48 (by decide) (fun c_1 => ?_) (fun c_1 => ?_)
  · refine lv_aload_n hx hb dX6_takeVal_62 rfl (lv_at hl 1 rfl) ?_
    refine lv_iconst (v := (-1)) hx hb dX6_takeVal_63 (by decide) ?_
    refine va_put (D := D) (ci := 6) (v := .int (-1)) (ty := .int) (C := RX6) (T := TX6) (N := 12) hx hb hts (fun _ h => List.mem_cons_of_mem _ (List.mem_append_left _ (List.mem_append_right _ h))) tyX6 tyX6_ok nmX6 hown hK hP hD hS 0 rfl rfl 10 (by decide) (hts (.fieldLink RX6 122 "LitmusHall$Reader" "valueReg" "I") (by decide +kernel)) (fun _ h9 => h9) rfl (by decide +kernel) rfl rfl (Nat.le_of_ble_eq_true rfl) dX6_takeVal_64 (fun H locs hP hD hS => ?_)
    have hP : va_P D vwCl [(h0, .inr (6, [v0, .int pv, .int fv, v3, .ref k4, .ref k5, .ref k6, v7, .int (nI t), v9, .int (-1), .int vl])), (k4, .inl (cI, 501, .inl (fun j => nI (Kd j)))), (k5, .inl (cI, 501, .inl sf)), (k6, .inl (cI, 501, .inl nf))] H := hP
    have hD : va_D A [(h0, .inr (6, [v0, .int pv, .int fv, v3, .ref k4, .ref k5, .ref k6, v7, .int (nI t), v9, .int (-1), .int vl])), (k4, .inl (cI, 501, .inl (fun j => nI (Kd j)))), (k5, .inl (cI, 501, .inl sf)), (k6, .inl (cI, 501, .inl nf))] := hD
    refine lv_aload_n hx hb dX6_takeVal_67 rfl (lv_at hl 1 rfl) ?_
    refine lv_iload_n hx hb dX6_takeVal_68 rfl (lv_at hl 0 rfl) ?_
    refine lv_bipush (v := 20) hx hb dX6_takeVal_69 (by decide) ?_
    refine gy_ne (a := (Kd t)) (b := 20) (tgt := 87) hx hb (by omega) (by omega) dX6_takeVal_71 (by decide) (fun c_2 => ?_) (fun c_2 => ?_)
    · refine lv_aload_n hx hb dX6_takeVal_87 rfl (lv_at hl 1 rfl) ?_
      refine va_get (D := D) (ci := 6) (v := .ref k6) (C := RX6) (T := TX6) (N := 12) hx hb hts (fun _ h => List.mem_cons_of_mem _ (List.mem_append_left _ (List.mem_append_right _ h))) hown hK hP 0 rfl rfl 6 (by decide) (hts (.fieldLink RX6 29 "LitmusHall$Reader" "numbers" "[I") (by decide +kernel)) (fun _ h9 => h9) rfl dX6_takeVal_88 ?_
      refine lv_aload_n hx hb dX6_takeVal_91 rfl (lv_at hl 1 rfl) ?_
      refine va_get (D := D) (ci := 6) (v := .int (nI t)) (C := RX6) (T := TX6) (N := 12) hx hb hts (fun _ h => List.mem_cons_of_mem _ (List.mem_append_left _ (List.mem_append_right _ h))) hown hK hP 0 rfl rfl 8 (by decide) (hts (.fieldLink RX6 45 "LitmusHall$Reader" "at" "I") (by decide +kernel)) (fun _ h9 => h9) rfl dX6_takeVal_92 ?_
      refine gy_ild (i := t) hx hb hK hP 3 rfl (by omega) (by omega) dX6_takeVal_95 ?_
      refine va_put (D := D) (ci := 6) (v := .int (nf t)) (ty := .int) (C := RX6) (T := TX6) (N := 12) hx hb hts (fun _ h => List.mem_cons_of_mem _ (List.mem_append_left _ (List.mem_append_right _ h))) tyX6 tyX6_ok nmX6 hown hK hP hD hS 0 rfl rfl 11 (by decide) (hts (.fieldLink RX6 108 "LitmusHall$Reader" "value" "I") (by decide +kernel)) (fun _ h9 => h9) rfl (by decide +kernel) rfl rfl (Nat.le_of_ble_eq_true rfl) dX6_takeVal_96 (fun H locs hP hD hS => ?_)
      have hP : va_P D vwCl [(h0, .inr (6, [v0, .int pv, .int fv, v3, .ref k4, .ref k5, .ref k6, v7, .int (nI t), v9, .int (-1), .int (nf t)])), (k4, .inl (cI, 501, .inl (fun j => nI (Kd j)))), (k5, .inl (cI, 501, .inl sf)), (k6, .inl (cI, 501, .inl nf))] H := hP
      have hD : va_D A [(h0, .inr (6, [v0, .int pv, .int fv, v3, .ref k4, .ref k5, .ref k6, v7, .int (nI t), v9, .int (-1), .int (nf t)])), (k4, .inl (cI, 501, .inl (fun j => nI (Kd j)))), (k5, .inl (cI, 501, .inl sf)), (k6, .inl (cI, 501, .inl nf))] := hD
      refine lv_aload_n hx hb dX6_takeVal_99 rfl (lv_at hl 1 rfl) ?_
      refine lv_bipush (v := 16) hx hb dX6_takeVal_100 (by decide) ?_
      refine gx_goi (wc := [(h0, .inr (6, [v0, .int pv, .int fv, v3, .ref k4, .ref k5, .ref k6, v7, .int (nI t), v9, .int (-1), .int (nf t)])), (k4, .inl (cI, 501, .inl (fun j => nI (Kd j)))), (k5, .inl (cI, 501, .inl sf))]) (wr := [(k6, .inl (cI, 501, .inl nf))]) (va_runV (As := [.int 16]) (rest := []) ⟨hx, hb, hml, hown, hts⟩ (x_take l D cI cB cZ h0 k4 k5 (v0) (v3) (.ref k6) (v7) (v9) (.int (-1)) (.int (nf t)) pv fv Kd sf t 16 (by omega) (hR.1 _ (by omega)) (by first | decide | omega | exact hR.1 _ (by omega)) _) (cwV 1 hts gP_x_takeVal0__x_take rfl rfl rfl (by decide +kernel) ⟨Nat.le_of_ble_eq_true rfl, Nat.le_of_ble_eq_true rfl⟩) (gx_preV (ci := 6) (q0 := 0) hK gN.nil hP hD [0, 1, 2] rfl rfl rfl rfl) rfl rfl hl.1 rfl (lv_room (Nat.le_of_ble_eq_true rfl)) dX6_takeVal_102 ⟨Nat.le_of_ble_eq_true rfl, Nat.le_of_ble_eq_true rfl⟩) hP hD hS hA [0, 1, 2] [3] rfl rfl rfl (by decide) (fun r1 w1 H locs hp hP hD hS => ?_)
      obtain ⟨e_3, e_4, e_5, e_6, hq_7, hx102_0, h9, rfl⟩ := hp
      have h9 := h9.symm
      subst h9
      have hq_7 : (e_3 = 0 ∧ e_6 = t ∧ ¬ e_5 = 0) ∨ (e_3 = 1 ∧ e_6 = t + 1 ∧ t < 500 ∧ nI (Kd t) = nI 16 ∧ e_5 = fv) := hq_7
      have hx102_0 : rOut (rTake Kd 16 t) e_6 (sf e_6) e_3 fv pv e_5 e_4 := hx102_0
      have htk := hq_7
      have htt := gTk0 htk (by omega)
      have hP := hP.sub (ws' := [(h0, .inr (6, [v0, .int e_4, .int e_5, v3, .ref k4, .ref k5, .ref k6, v7, .int (nI e_6), v9, .int (-1), .int (nf t)])), (k4, .inl (cI, 501, .inl (fun j => nI (Kd j)))), (k5, .inl (cI, 501, .inl sf)), (k6, .inl (cI, 501, .inl nf))]) [1, 2, 3, 0] rfl
      have hD := hD.sub (ws' := [(h0, .inr (6, [v0, .int e_4, .int e_5, v3, .ref k4, .ref k5, .ref k6, v7, .int (nI e_6), v9, .int (-1), .int (nf t)])), (k4, .inl (cI, 501, .inl (fun j => nI (Kd j)))), (k5, .inl (cI, 501, .inl sf)), (k6, .inl (cI, 501, .inl nf))]) [1, 2, 3, 0] (by decide) rfl
      exact gx_zret (w' := [(h0, .inr (6, [v0, .int e_4, .int e_5, v3, .ref k4, .ref k5, .ref k6, v7, .int (nI e_6), v9, .int (-1), .int (nf t)])), (k4, .inl (cI, 501, .inl (fun j => nI (Kd j)))), (k5, .inl (cI, 501, .inl sf)), (k6, .inl (cI, 501, .inl nf))]) hx hb hr hlk hK hP hD hS (Nat.le_of_ble_eq_true rfl) (Nat.le_of_ble_eq_true rfl) dX6_takeVal_105 (gy_z01 (gTk1 htk)) ⟨e_3, e_4, e_5, e_6, (nf t), (-1), (by first | exact gTk2 htk (Or.inl rfl) | exact gTk4 (gTk2 htk (Or.inl rfl)) (gTkY htk0 c_1).2.2.2 htt0.1 | exact gTk4 (gTk2 htk (Or.inl rfl)) (gTkY htk0 c_2).2.2.2 htt0.1), (by omega), (by first | (exfalso; omega) | exact rOut_e (rInt_n (by omega)) hx102_0 | exact rOut_e (rInt_m (by omega)) (rOut_seq hx54_0 c_1 hx102_0)), (fun _ => ⟨rfl, by first | (exfalso; omega) | exact vInt_n (by omega) | exact vInt_m (by omega) (gTkY htk0 c_1).1⟩), rfl, rfl⟩
    · refine lv_aload_n hx hb dX6_takeVal_74 rfl (lv_at hl 1 rfl) ?_
      refine va_get (D := D) (ci := 6) (v := .ref k6) (C := RX6) (T := TX6) (N := 12) hx hb hts (fun _ h => List.mem_cons_of_mem _ (List.mem_append_left _ (List.mem_append_right _ h))) hown hK hP 0 rfl rfl 6 (by decide) (hts (.fieldLink RX6 29 "LitmusHall$Reader" "numbers" "[I") (by decide +kernel)) (fun _ h9 => h9) rfl dX6_takeVal_75 ?_
      refine lv_aload_n hx hb dX6_takeVal_78 rfl (lv_at hl 1 rfl) ?_
      refine va_get (D := D) (ci := 6) (v := .int (nI t)) (C := RX6) (T := TX6) (N := 12) hx hb hts (fun _ h => List.mem_cons_of_mem _ (List.mem_append_left _ (List.mem_append_right _ h))) hown hK hP 0 rfl rfl 8 (by decide) (hts (.fieldLink RX6 45 "LitmusHall$Reader" "at" "I") (by decide +kernel)) (fun _ h9 => h9) rfl dX6_takeVal_79 ?_
      refine gy_ild (i := t) hx hb hK hP 3 rfl (by omega) (by omega) dX6_takeVal_82 ?_
      refine lv_ineg hx hb dX6_takeVal_83 ?_
      refine lv_goto (tgt := 96) hx hb dX6_takeVal_84 (by decide) ?_
      refine va_put (D := D) (ci := 6) (v := .int (-(nf t))) (ty := .int) (C := RX6) (T := TX6) (N := 12) hx hb hts (fun _ h => List.mem_cons_of_mem _ (List.mem_append_left _ (List.mem_append_right _ h))) tyX6 tyX6_ok nmX6 hown hK hP hD hS 0 rfl rfl 11 (by decide) (hts (.fieldLink RX6 108 "LitmusHall$Reader" "value" "I") (by decide +kernel)) (fun _ h9 => h9) rfl (by decide +kernel) rfl rfl (Nat.le_of_ble_eq_true rfl) dX6_takeVal_96 (fun H locs hP hD hS => ?_)
      have hP : va_P D vwCl [(h0, .inr (6, [v0, .int pv, .int fv, v3, .ref k4, .ref k5, .ref k6, v7, .int (nI t), v9, .int (-1), .int (-(nf t))])), (k4, .inl (cI, 501, .inl (fun j => nI (Kd j)))), (k5, .inl (cI, 501, .inl sf)), (k6, .inl (cI, 501, .inl nf))] H := hP
      have hD : va_D A [(h0, .inr (6, [v0, .int pv, .int fv, v3, .ref k4, .ref k5, .ref k6, v7, .int (nI t), v9, .int (-1), .int (-(nf t))])), (k4, .inl (cI, 501, .inl (fun j => nI (Kd j)))), (k5, .inl (cI, 501, .inl sf)), (k6, .inl (cI, 501, .inl nf))] := hD
      refine lv_aload_n hx hb dX6_takeVal_99 rfl (lv_at hl 1 rfl) ?_
      refine lv_bipush (v := 16) hx hb dX6_takeVal_100 (by decide) ?_
      refine gx_goi (wc := [(h0, .inr (6, [v0, .int pv, .int fv, v3, .ref k4, .ref k5, .ref k6, v7, .int (nI t), v9, .int (-1), .int (-(nf t))])), (k4, .inl (cI, 501, .inl (fun j => nI (Kd j)))), (k5, .inl (cI, 501, .inl sf))]) (wr := [(k6, .inl (cI, 501, .inl nf))]) (va_runV (As := [.int 16]) (rest := []) ⟨hx, hb, hml, hown, hts⟩ (x_take l D cI cB cZ h0 k4 k5 (v0) (v3) (.ref k6) (v7) (v9) (.int (-1)) (.int (-(nf t))) pv fv Kd sf t 16 (by omega) (hR.1 _ (by omega)) (by first | decide | omega | exact hR.1 _ (by omega)) _) (cwV 1 hts gP_x_takeVal0__x_take rfl rfl rfl (by decide +kernel) ⟨Nat.le_of_ble_eq_true rfl, Nat.le_of_ble_eq_true rfl⟩) (gx_preV (ci := 6) (q0 := 0) hK gN.nil hP hD [0, 1, 2] rfl rfl rfl rfl) rfl rfl hl.1 rfl (lv_room (Nat.le_of_ble_eq_true rfl)) dX6_takeVal_102 ⟨Nat.le_of_ble_eq_true rfl, Nat.le_of_ble_eq_true rfl⟩) hP hD hS hA [0, 1, 2] [3] rfl rfl rfl (by decide) (fun r1 w1 H locs hp hP hD hS => ?_)
      obtain ⟨e_8, e_9, e_10, e_11, hq_12, hx102_0, h9, rfl⟩ := hp
      have h9 := h9.symm
      subst h9
      have hq_12 : (e_8 = 0 ∧ e_11 = t ∧ ¬ e_10 = 0) ∨ (e_8 = 1 ∧ e_11 = t + 1 ∧ t < 500 ∧ nI (Kd t) = nI 16 ∧ e_10 = fv) := hq_12
      have hx102_0 : rOut (rTake Kd 16 t) e_11 (sf e_11) e_8 fv pv e_10 e_9 := hx102_0
      have htk := hq_12
      have htt := gTk0 htk (by omega)
      have hP := hP.sub (ws' := [(h0, .inr (6, [v0, .int e_9, .int e_10, v3, .ref k4, .ref k5, .ref k6, v7, .int (nI e_11), v9, .int (-1), .int (-(nf t))])), (k4, .inl (cI, 501, .inl (fun j => nI (Kd j)))), (k5, .inl (cI, 501, .inl sf)), (k6, .inl (cI, 501, .inl nf))]) [1, 2, 3, 0] rfl
      have hD := hD.sub (ws' := [(h0, .inr (6, [v0, .int e_9, .int e_10, v3, .ref k4, .ref k5, .ref k6, v7, .int (nI e_11), v9, .int (-1), .int (-(nf t))])), (k4, .inl (cI, 501, .inl (fun j => nI (Kd j)))), (k5, .inl (cI, 501, .inl sf)), (k6, .inl (cI, 501, .inl nf))]) [1, 2, 3, 0] (by decide) rfl
      exact gx_zret (w' := [(h0, .inr (6, [v0, .int e_9, .int e_10, v3, .ref k4, .ref k5, .ref k6, v7, .int (nI e_11), v9, .int (-1), .int (-(nf t))])), (k4, .inl (cI, 501, .inl (fun j => nI (Kd j)))), (k5, .inl (cI, 501, .inl sf)), (k6, .inl (cI, 501, .inl nf))]) hx hb hr hlk hK hP hD hS (Nat.le_of_ble_eq_true rfl) (Nat.le_of_ble_eq_true rfl) dX6_takeVal_105 (gy_z01 (gTk1 htk)) ⟨e_8, e_9, e_10, e_11, (-(nf t)), (-1), (by first | exact gTk2 htk (Or.inl rfl) | exact gTk4 (gTk2 htk (Or.inl rfl)) (gTkY htk0 c_1).2.2.2 htt0.1 | exact gTk4 (gTk2 htk (Or.inl rfl)) (gTkY htk0 c_2).2.2.2 htt0.1), (by omega), (by first | (exfalso; omega) | exact rOut_e (rInt_n (by omega)) hx102_0 | exact rOut_e (rInt_m (by omega)) (rOut_seq hx54_0 c_1 hx102_0)), (fun _ => ⟨rfl, by first | (exfalso; omega) | exact vInt_n (by omega) | exact vInt_m (by omega) (gTkY htk0 c_1).1⟩), rfl, rfl⟩
  · refine lv_aload_n hx hb dX6_takeVal_51 rfl (lv_at hl 1 rfl) ?_
    refine lv_bipush (v := 20) hx hb dX6_takeVal_52 (by decide) ?_
    refine gx_goi (wc := [(h0, .inr (6, [v0, .int pv, .int fv, v3, .ref k4, .ref k5, .ref k6, v7, .int (nI t), v9, .int vr, .int vl])), (k4, .inl (cI, 501, .inl (fun j => nI (Kd j)))), (k5, .inl (cI, 501, .inl sf))]) (wr := [(k6, .inl (cI, 501, .inl nf))]) (va_runV (As := [.int 20]) (rest := []) ⟨hx, hb, hml, hown, hts⟩ (x_take l D cI cB cZ h0 k4 k5 (v0) (v3) (.ref k6) (v7) (v9) (.int vr) (.int vl) pv fv Kd sf t 20 (by omega) (hR.1 _ (by omega)) (by first | decide | omega | exact hR.1 _ (by omega)) _) (cwV 1 hts gP_x_takeVal0__x_take rfl rfl rfl (by decide +kernel) ⟨Nat.le_of_ble_eq_true rfl, Nat.le_of_ble_eq_true rfl⟩) (gx_preV (ci := 6) (q0 := 0) hK gN.nil hP hD [0, 1, 2] rfl rfl rfl rfl) rfl rfl hl.1 rfl (lv_room (Nat.le_of_ble_eq_true rfl)) dX6_takeVal_54 ⟨Nat.le_of_ble_eq_true rfl, Nat.le_of_ble_eq_true rfl⟩) hP hD hS hA [0, 1, 2] [3] rfl rfl rfl (by decide) (fun r1 w1 H locs hp hP hD hS => ?_)
    obtain ⟨e_13, e_14, e_15, e_16, hq_17, hx54_0, h9, rfl⟩ := hp
    have h9 := h9.symm
    subst h9
    have hq_17 : (e_13 = 0 ∧ e_16 = t ∧ ¬ e_15 = 0) ∨ (e_13 = 1 ∧ e_16 = t + 1 ∧ t < 500 ∧ nI (Kd t) = nI 20 ∧ e_15 = fv) := hq_17
    have hx54_0 : rOut (rTake Kd 20 t) e_16 (sf e_16) e_13 fv pv e_15 e_14 := hx54_0
    have htk0 := hq_17
    have htt0 := gTk0 htk0 (by omega)
    refine lv_if_ne (tgt := 62) hx hb dX6_takeVal_57 (by decide) (fun c_18 => ?_) (fun c_18 => ?_)
    · refine lv_aload_n hx hb dX6_takeVal_62 rfl (lv_at hl 1 rfl) ?_
      refine lv_iconst (v := (-1)) hx hb dX6_takeVal_63 (by decide) ?_
      refine va_put (D := D) (ci := 6) (v := .int (-1)) (ty := .int) (C := RX6) (T := TX6) (N := 12) hx hb hts (fun _ h => List.mem_cons_of_mem _ (List.mem_append_left _ (List.mem_append_right _ h))) tyX6 tyX6_ok nmX6 hown hK hP hD hS 1 rfl rfl 10 (by decide) (hts (.fieldLink RX6 122 "LitmusHall$Reader" "valueReg" "I") (by decide +kernel)) (fun _ h9 => h9) rfl (by decide +kernel) rfl rfl (Nat.le_of_ble_eq_true rfl) dX6_takeVal_64 (fun H locs hP hD hS => ?_)
      have hP : va_P D vwCl [(k6, .inl (cI, 501, .inl nf)), (h0, .inr (6, [v0, .int e_14, .int e_15, v3, .ref k4, .ref k5, .ref k6, v7, .int (nI e_16), v9, .int (-1), .int vl])), (k4, .inl (cI, 501, .inl (fun j => nI (Kd j)))), (k5, .inl (cI, 501, .inl sf))] H := hP
      have hD : va_D A [(k6, .inl (cI, 501, .inl nf)), (h0, .inr (6, [v0, .int e_14, .int e_15, v3, .ref k4, .ref k5, .ref k6, v7, .int (nI e_16), v9, .int (-1), .int vl])), (k4, .inl (cI, 501, .inl (fun j => nI (Kd j)))), (k5, .inl (cI, 501, .inl sf))] := hD
      refine lv_aload_n hx hb dX6_takeVal_67 rfl (lv_at hl 1 rfl) ?_
      refine lv_iload_n hx hb dX6_takeVal_68 rfl (lv_at hl 0 rfl) ?_
      refine lv_bipush (v := 20) hx hb dX6_takeVal_69 (by decide) ?_
      refine gy_ne (a := (Kd t)) (b := 20) (tgt := 87) hx hb (by omega) (by omega) dX6_takeVal_71 (by decide) (fun c_19 => ?_) (fun c_19 => ?_)
      · refine lv_aload_n hx hb dX6_takeVal_87 rfl (lv_at hl 1 rfl) ?_
        refine va_get (D := D) (ci := 6) (v := .ref k6) (C := RX6) (T := TX6) (N := 12) hx hb hts (fun _ h => List.mem_cons_of_mem _ (List.mem_append_left _ (List.mem_append_right _ h))) hown hK hP 1 rfl rfl 6 (by decide) (hts (.fieldLink RX6 29 "LitmusHall$Reader" "numbers" "[I") (by decide +kernel)) (fun _ h9 => h9) rfl dX6_takeVal_88 ?_
        refine lv_aload_n hx hb dX6_takeVal_91 rfl (lv_at hl 1 rfl) ?_
        refine va_get (D := D) (ci := 6) (v := .int (nI e_16)) (C := RX6) (T := TX6) (N := 12) hx hb hts (fun _ h => List.mem_cons_of_mem _ (List.mem_append_left _ (List.mem_append_right _ h))) hown hK hP 1 rfl rfl 8 (by decide) (hts (.fieldLink RX6 45 "LitmusHall$Reader" "at" "I") (by decide +kernel)) (fun _ h9 => h9) rfl dX6_takeVal_92 ?_
        refine gy_ild (i := e_16) hx hb hK hP 0 rfl (by omega) (by omega) dX6_takeVal_95 ?_
        refine va_put (D := D) (ci := 6) (v := .int (nf e_16)) (ty := .int) (C := RX6) (T := TX6) (N := 12) hx hb hts (fun _ h => List.mem_cons_of_mem _ (List.mem_append_left _ (List.mem_append_right _ h))) tyX6 tyX6_ok nmX6 hown hK hP hD hS 1 rfl rfl 11 (by decide) (hts (.fieldLink RX6 108 "LitmusHall$Reader" "value" "I") (by decide +kernel)) (fun _ h9 => h9) rfl (by decide +kernel) rfl rfl (Nat.le_of_ble_eq_true rfl) dX6_takeVal_96 (fun H locs hP hD hS => ?_)
        have hP : va_P D vwCl [(k6, .inl (cI, 501, .inl nf)), (h0, .inr (6, [v0, .int e_14, .int e_15, v3, .ref k4, .ref k5, .ref k6, v7, .int (nI e_16), v9, .int (-1), .int (nf e_16)])), (k4, .inl (cI, 501, .inl (fun j => nI (Kd j)))), (k5, .inl (cI, 501, .inl sf))] H := hP
        have hD : va_D A [(k6, .inl (cI, 501, .inl nf)), (h0, .inr (6, [v0, .int e_14, .int e_15, v3, .ref k4, .ref k5, .ref k6, v7, .int (nI e_16), v9, .int (-1), .int (nf e_16)])), (k4, .inl (cI, 501, .inl (fun j => nI (Kd j)))), (k5, .inl (cI, 501, .inl sf))] := hD
        refine lv_aload_n hx hb dX6_takeVal_99 rfl (lv_at hl 1 rfl) ?_
        refine lv_bipush (v := 16) hx hb dX6_takeVal_100 (by decide) ?_
        refine gx_goi (wc := [(h0, .inr (6, [v0, .int e_14, .int e_15, v3, .ref k4, .ref k5, .ref k6, v7, .int (nI e_16), v9, .int (-1), .int (nf e_16)])), (k4, .inl (cI, 501, .inl (fun j => nI (Kd j)))), (k5, .inl (cI, 501, .inl sf))]) (wr := [(k6, .inl (cI, 501, .inl nf))]) (va_runV (As := [.int 16]) (rest := []) ⟨hx, hb, hml, hown, hts⟩ (x_take l D cI cB cZ h0 k4 k5 (v0) (v3) (.ref k6) (v7) (v9) (.int (-1)) (.int (nf e_16)) e_14 e_15 Kd sf e_16 16 (by omega) (hR.1 _ (by omega)) (by first | decide | omega | exact hR.1 _ (by omega)) _) (cwV 1 hts gP_x_takeVal0__x_take rfl rfl rfl (by decide +kernel) ⟨Nat.le_of_ble_eq_true rfl, Nat.le_of_ble_eq_true rfl⟩) (gx_preV (ci := 6) (q0 := 0) hK gN.nil hP hD [1, 2, 3] rfl rfl rfl rfl) rfl rfl hl.1 rfl (lv_room (Nat.le_of_ble_eq_true rfl)) dX6_takeVal_102 ⟨Nat.le_of_ble_eq_true rfl, Nat.le_of_ble_eq_true rfl⟩) hP hD hS hA [1, 2, 3] [0] rfl rfl rfl (by decide) (fun r1 w1 H locs hp hP hD hS => ?_)
        obtain ⟨e_20, e_21, e_22, e_23, hq_24, hx102_0, h9, rfl⟩ := hp
        have h9 := h9.symm
        subst h9
        have hq_24 : (e_20 = 0 ∧ e_23 = e_16 ∧ ¬ e_22 = 0) ∨ (e_20 = 1 ∧ e_23 = e_16 + 1 ∧ e_16 < 500 ∧ nI (Kd e_16) = nI 16 ∧ e_22 = e_15) := hq_24
        have hx102_0 : rOut (rTake Kd 16 e_16) e_23 (sf e_23) e_20 e_15 e_14 e_22 e_21 := hx102_0
        have htk := hq_24
        have htt := gTk0 htk (by omega)
        have hP := hP.sub (ws' := [(h0, .inr (6, [v0, .int e_21, .int e_22, v3, .ref k4, .ref k5, .ref k6, v7, .int (nI e_23), v9, .int (-1), .int (nf e_16)])), (k4, .inl (cI, 501, .inl (fun j => nI (Kd j)))), (k5, .inl (cI, 501, .inl sf)), (k6, .inl (cI, 501, .inl nf))]) [1, 2, 3, 0] rfl
        have hD := hD.sub (ws' := [(h0, .inr (6, [v0, .int e_21, .int e_22, v3, .ref k4, .ref k5, .ref k6, v7, .int (nI e_23), v9, .int (-1), .int (nf e_16)])), (k4, .inl (cI, 501, .inl (fun j => nI (Kd j)))), (k5, .inl (cI, 501, .inl sf)), (k6, .inl (cI, 501, .inl nf))]) [1, 2, 3, 0] (by decide) rfl
        exact gx_zret (w' := [(h0, .inr (6, [v0, .int e_21, .int e_22, v3, .ref k4, .ref k5, .ref k6, v7, .int (nI e_23), v9, .int (-1), .int (nf e_16)])), (k4, .inl (cI, 501, .inl (fun j => nI (Kd j)))), (k5, .inl (cI, 501, .inl sf)), (k6, .inl (cI, 501, .inl nf))]) hx hb hr hlk hK hP hD hS (Nat.le_of_ble_eq_true rfl) (Nat.le_of_ble_eq_true rfl) dX6_takeVal_105 (gy_z01 (gTk1 htk)) ⟨e_20, e_21, e_22, e_23, (nf e_16), (-1), (by first | exact gTk2 htk (Or.inl rfl) | exact gTk4 (gTk2 htk (Or.inl rfl)) (gTkY htk0 c_18).2.2.2 htt0.1 | exact gTk4 (gTk2 htk (Or.inl rfl)) (gTkY htk0 c_19).2.2.2 htt0.1), (by omega), (by first | (exfalso; omega) | exact rOut_e (rInt_n (by omega)) hx102_0 | exact rOut_e (rInt_m (by omega)) (rOut_seq hx54_0 c_18 hx102_0)), (fun _ => ⟨rfl, by first | (exfalso; omega) | exact vInt_n (by omega) | exact vInt_m (by omega) (gTkY htk0 c_18).1⟩), rfl, rfl⟩
      · refine lv_aload_n hx hb dX6_takeVal_74 rfl (lv_at hl 1 rfl) ?_
        refine va_get (D := D) (ci := 6) (v := .ref k6) (C := RX6) (T := TX6) (N := 12) hx hb hts (fun _ h => List.mem_cons_of_mem _ (List.mem_append_left _ (List.mem_append_right _ h))) hown hK hP 1 rfl rfl 6 (by decide) (hts (.fieldLink RX6 29 "LitmusHall$Reader" "numbers" "[I") (by decide +kernel)) (fun _ h9 => h9) rfl dX6_takeVal_75 ?_
        refine lv_aload_n hx hb dX6_takeVal_78 rfl (lv_at hl 1 rfl) ?_
        refine va_get (D := D) (ci := 6) (v := .int (nI e_16)) (C := RX6) (T := TX6) (N := 12) hx hb hts (fun _ h => List.mem_cons_of_mem _ (List.mem_append_left _ (List.mem_append_right _ h))) hown hK hP 1 rfl rfl 8 (by decide) (hts (.fieldLink RX6 45 "LitmusHall$Reader" "at" "I") (by decide +kernel)) (fun _ h9 => h9) rfl dX6_takeVal_79 ?_
        refine gy_ild (i := e_16) hx hb hK hP 0 rfl (by omega) (by omega) dX6_takeVal_82 ?_
        refine lv_ineg hx hb dX6_takeVal_83 ?_
        refine lv_goto (tgt := 96) hx hb dX6_takeVal_84 (by decide) ?_
        refine va_put (D := D) (ci := 6) (v := .int (-(nf e_16))) (ty := .int) (C := RX6) (T := TX6) (N := 12) hx hb hts (fun _ h => List.mem_cons_of_mem _ (List.mem_append_left _ (List.mem_append_right _ h))) tyX6 tyX6_ok nmX6 hown hK hP hD hS 1 rfl rfl 11 (by decide) (hts (.fieldLink RX6 108 "LitmusHall$Reader" "value" "I") (by decide +kernel)) (fun _ h9 => h9) rfl (by decide +kernel) rfl rfl (Nat.le_of_ble_eq_true rfl) dX6_takeVal_96 (fun H locs hP hD hS => ?_)
        have hP : va_P D vwCl [(k6, .inl (cI, 501, .inl nf)), (h0, .inr (6, [v0, .int e_14, .int e_15, v3, .ref k4, .ref k5, .ref k6, v7, .int (nI e_16), v9, .int (-1), .int (-(nf e_16))])), (k4, .inl (cI, 501, .inl (fun j => nI (Kd j)))), (k5, .inl (cI, 501, .inl sf))] H := hP
        have hD : va_D A [(k6, .inl (cI, 501, .inl nf)), (h0, .inr (6, [v0, .int e_14, .int e_15, v3, .ref k4, .ref k5, .ref k6, v7, .int (nI e_16), v9, .int (-1), .int (-(nf e_16))])), (k4, .inl (cI, 501, .inl (fun j => nI (Kd j)))), (k5, .inl (cI, 501, .inl sf))] := hD
        refine lv_aload_n hx hb dX6_takeVal_99 rfl (lv_at hl 1 rfl) ?_
        refine lv_bipush (v := 16) hx hb dX6_takeVal_100 (by decide) ?_
        refine gx_goi (wc := [(h0, .inr (6, [v0, .int e_14, .int e_15, v3, .ref k4, .ref k5, .ref k6, v7, .int (nI e_16), v9, .int (-1), .int (-(nf e_16))])), (k4, .inl (cI, 501, .inl (fun j => nI (Kd j)))), (k5, .inl (cI, 501, .inl sf))]) (wr := [(k6, .inl (cI, 501, .inl nf))]) (va_runV (As := [.int 16]) (rest := []) ⟨hx, hb, hml, hown, hts⟩ (x_take l D cI cB cZ h0 k4 k5 (v0) (v3) (.ref k6) (v7) (v9) (.int (-1)) (.int (-(nf e_16))) e_14 e_15 Kd sf e_16 16 (by omega) (hR.1 _ (by omega)) (by first | decide | omega | exact hR.1 _ (by omega)) _) (cwV 1 hts gP_x_takeVal0__x_take rfl rfl rfl (by decide +kernel) ⟨Nat.le_of_ble_eq_true rfl, Nat.le_of_ble_eq_true rfl⟩) (gx_preV (ci := 6) (q0 := 0) hK gN.nil hP hD [1, 2, 3] rfl rfl rfl rfl) rfl rfl hl.1 rfl (lv_room (Nat.le_of_ble_eq_true rfl)) dX6_takeVal_102 ⟨Nat.le_of_ble_eq_true rfl, Nat.le_of_ble_eq_true rfl⟩) hP hD hS hA [1, 2, 3] [0] rfl rfl rfl (by decide) (fun r1 w1 H locs hp hP hD hS => ?_)
        obtain ⟨e_25, e_26, e_27, e_28, hq_29, hx102_0, h9, rfl⟩ := hp
        have h9 := h9.symm
        subst h9
        have hq_29 : (e_25 = 0 ∧ e_28 = e_16 ∧ ¬ e_27 = 0) ∨ (e_25 = 1 ∧ e_28 = e_16 + 1 ∧ e_16 < 500 ∧ nI (Kd e_16) = nI 16 ∧ e_27 = e_15) := hq_29
        have hx102_0 : rOut (rTake Kd 16 e_16) e_28 (sf e_28) e_25 e_15 e_14 e_27 e_26 := hx102_0
        have htk := hq_29
        have htt := gTk0 htk (by omega)
        have hP := hP.sub (ws' := [(h0, .inr (6, [v0, .int e_26, .int e_27, v3, .ref k4, .ref k5, .ref k6, v7, .int (nI e_28), v9, .int (-1), .int (-(nf e_16))])), (k4, .inl (cI, 501, .inl (fun j => nI (Kd j)))), (k5, .inl (cI, 501, .inl sf)), (k6, .inl (cI, 501, .inl nf))]) [1, 2, 3, 0] rfl
        have hD := hD.sub (ws' := [(h0, .inr (6, [v0, .int e_26, .int e_27, v3, .ref k4, .ref k5, .ref k6, v7, .int (nI e_28), v9, .int (-1), .int (-(nf e_16))])), (k4, .inl (cI, 501, .inl (fun j => nI (Kd j)))), (k5, .inl (cI, 501, .inl sf)), (k6, .inl (cI, 501, .inl nf))]) [1, 2, 3, 0] (by decide) rfl
        exact gx_zret (w' := [(h0, .inr (6, [v0, .int e_26, .int e_27, v3, .ref k4, .ref k5, .ref k6, v7, .int (nI e_28), v9, .int (-1), .int (-(nf e_16))])), (k4, .inl (cI, 501, .inl (fun j => nI (Kd j)))), (k5, .inl (cI, 501, .inl sf)), (k6, .inl (cI, 501, .inl nf))]) hx hb hr hlk hK hP hD hS (Nat.le_of_ble_eq_true rfl) (Nat.le_of_ble_eq_true rfl) dX6_takeVal_105 (gy_z01 (gTk1 htk)) ⟨e_25, e_26, e_27, e_28, (-(nf e_16)), (-1), (by first | exact gTk2 htk (Or.inl rfl) | exact gTk4 (gTk2 htk (Or.inl rfl)) (gTkY htk0 c_18).2.2.2 htt0.1 | exact gTk4 (gTk2 htk (Or.inl rfl)) (gTkY htk0 c_19).2.2.2 htt0.1), (by omega), (by first | (exfalso; omega) | exact rOut_e (rInt_n (by omega)) hx102_0 | exact rOut_e (rInt_m (by omega)) (rOut_seq hx54_0 c_18 hx102_0)), (fun _ => ⟨rfl, by first | (exfalso; omega) | exact vInt_n (by omega) | exact vInt_m (by omega) (gTkY htk0 c_18).1⟩), rfl, rfl⟩
    · refine lv_iconst (v := 0) hx hb dX6_takeVal_60 (by decide) ?_
      have hP := hP.sub (ws' := [(h0, .inr (6, [v0, .int e_14, .int e_15, v3, .ref k4, .ref k5, .ref k6, v7, .int (nI e_16), v9, .int vr, .int vl])), (k4, .inl (cI, 501, .inl (fun j => nI (Kd j)))), (k5, .inl (cI, 501, .inl sf)), (k6, .inl (cI, 501, .inl nf))]) [1, 2, 3, 0] rfl
      have hD := hD.sub (ws' := [(h0, .inr (6, [v0, .int e_14, .int e_15, v3, .ref k4, .ref k5, .ref k6, v7, .int (nI e_16), v9, .int vr, .int vl])), (k4, .inl (cI, 501, .inl (fun j => nI (Kd j)))), (k5, .inl (cI, 501, .inl sf)), (k6, .inl (cI, 501, .inl nf))]) [1, 2, 3, 0] (by decide) rfl
      exact gx_zret (w' := [(h0, .inr (6, [v0, .int e_14, .int e_15, v3, .ref k4, .ref k5, .ref k6, v7, .int (nI e_16), v9, .int vr, .int vl])), (k4, .inl (cI, 501, .inl (fun j => nI (Kd j)))), (k5, .inl (cI, 501, .inl sf)), (k6, .inl (cI, 501, .inl nf))]) hx hb hr hlk hK hP hD hS (Nat.le_of_ble_eq_true rfl) (Nat.le_of_ble_eq_true rfl) dX6_takeVal_61 rfl ⟨0, e_14, e_15, e_16, vl, vr, (Or.inl ⟨rfl, by rcases htk0 with h | h; exact h.2.2; exact absurd (h.1.symm.trans c_18) (by decide)⟩), htt0, (rOut_e (rInt_m (by omega)) (rOut_stp hx54_0 c_18)), (fun h => absurd rfl h), rfl, rfl⟩
def wsP_x_takeVal1 : List Cond := .code yX6_takeVal cX6_takeVal 3 (some .boolean) :: (([.fieldLink RX6 22 "LitmusHall$Reader" "kinds" "[I", .fieldLink RX6 45 "LitmusHall$Reader" "at" "I", .fieldLink RX6 122 "LitmusHall$Reader" "valueReg" "I", .fieldLink RX6 29 "LitmusHall$Reader" "numbers" "[I", .fieldLink RX6 108 "LitmusHall$Reader" "value" "I", .methodLink RX6 102 yX6_take, .instanceMethod yX6_take, .selects RX6 yX6_take yX6_take, .initialized RX6] ++ wsX60) ++ (wsP_x_take ++ []))
theorem gW_x_takeVal1 : wsP_x_takeVal1.all goodWord = true := by unfold wsP_x_takeVal1; exact gw_mk (by decide +kernel) (gw_app gW_x_take rfl)
set_option maxRecDepth 20000 in
theorem gP_x_takeVal1__x_take : GoodIn wsP_x_takeVal1 (wsV RX6 102 RX6 yX6_take wsP_x_take) := gw_in (pre := [.methodLink RX6 102 yX6_take, .instanceMethod yX6_take, .selects RX6 yX6_take yX6_take, .initialized RX6]) (by decide +kernel) (fun _ h => List.mem_cons_of_mem _ (List.mem_append_right _ (List.mem_append_left _ h))) gW_x_take
set_option maxHeartbeats 4000000 in
set_option maxRecDepth 100000 in
theorem x_takeVal1 (l : Launch) (D : va_G) (cI cB cZ : ClassId) (h0 : Nat) (k4 : Nat) (k5 : Nat) (k6 : Nat) (v0 : Value) (v3 : Value) (v7 : Value) (v9 : Value) (pv : Int32) (fv : Int32) (Kd : Nat → Nat) (sf : Nat → Int32) (nf : Nat → Int32) (t : Nat) (vl : Int32) (vr : Int32) (ht : t ≤ 500) (hR : gRdI Kd nf sf) : gMi l yX6_takeVal wsP_x_takeVal1 ({ frames := 2, cells := 0, slots := 0, locals := 42 }) D cI cB cZ [] [.ref h0, .int 1] [(h0, .inr (6, [v0, .int pv, .int fv, v3, .ref k4, .ref k5, .ref k6, v7, .int (nI t), v9, .int vr, .int vl])), (k4, .inl (cI, 501, .inl (fun j => nI (Kd j)))), (k5, .inl (cI, 501, .inl sf)), (k6, .inl (cI, 501, .inl nf))] (fun r9 w9 => ∃ z : Int32, ∃ pv9 : Int32, ∃ fv9 : Int32, ∃ t9 : Nat, ∃ vl9 : Int32, ∃ vr9 : Int32, ((z = 0 ∧ ¬ fv9 = 0) ∨ (z = 1 ∧ fv9 = fv ∧ t < t9 ∧ (vr9 = (-1) ∨ ∃ r, r < 3 ∧ vr9 = nI r))) ∧ (t ≤ t9 ∧ t9 ≤ 500) ∧ (rOut (rVal Kd t) t9 (sf t9) z fv pv fv9 pv9) ∧ (¬ z = 0 → vr9 = vRg Kd t ∧ vl9 = vVl Kd nf t) ∧ r9 = z ∧ w9 = [(h0, .inr (6, [v0, .int pv9, .int fv9, v3, .ref k4, .ref k5, .ref k6, v7, .int (nI t9), v9, .int vr9, .int vl9])), (k4, .inl (cI, 501, .inl (fun j => nI (Kd j)))), (k5, .inl (cI, 501, .inl sf)), (k6, .inl (cI, 501, .inl nf))]) := by
  refine gMi.of (cc := cX6_takeVal) (maxL := 3) (ret := (some .boolean)) (by decide) rfl (Nat.le_of_ble_eq_true rfl) (fun p e s m below meth c A ls hx hb hr hlk hml hts hown hin hA hP hK hD hS hN hl => ?_)
  have hown : s.vm.findClass RX6 = some m.cls := hown
  have hl : lv_has ls 3 [(0, .ref h0), (1, .int 1)] := hl
  have hKt := hR.1 t (by omega)
  refine lv_aload_n hx hb dX6_takeVal_0 rfl (lv_at hl 0 rfl) ?_
  refine va_get (D := D) (ci := 6) (v := .ref k4) (C := RX6) (T := TX6) (N := 12) hx hb hts (fun _ h => List.mem_cons_of_mem _ (List.mem_append_left _ (List.mem_append_right _ h))) hown hK hP 0 rfl rfl 4 (by decide) (hts (.fieldLink RX6 22 "LitmusHall$Reader" "kinds" "[I") (by decide +kernel)) (fun _ h9 => h9) rfl dX6_takeVal_1 ?_
  refine lv_aload_n hx hb dX6_takeVal_4 rfl (lv_at hl 0 rfl) ?_
  refine va_get (D := D) (ci := 6) (v := .int (nI t)) (C := RX6) (T := TX6) (N := 12) hx hb hts (fun _ h => List.mem_cons_of_mem _ (List.mem_append_left _ (List.mem_append_right _ h))) hown hK hP 0 rfl rfl 8 (by decide) (hts (.fieldLink RX6 45 "LitmusHall$Reader" "at" "I") (by decide +kernel)) (fun _ h9 => h9) rfl dX6_takeVal_5 ?_
  refine gy_ild (i := t) hx hb hK hP 1 rfl (by omega) (by omega) dX6_takeVal_8 ?_
  refine gx_top (y := nI (Kd t)) rfl ?_
  refine lv_istore_n (lv' := [(2, .int (nI (Kd t))), (0, .ref h0), (1, .int 1)]) hx hb dX6_takeVal_9 rfl hl (by decide) rfl (fun ls hl => ?_)
  refine lv_iload_n hx hb dX6_takeVal_10 rfl (lv_at hl 2 rfl) ?_
  refine lv_if_eq (tgt := 45) hx hb dX6_takeVal_11 (by decide) (fun c9 => absurd c9 (by decide)) (fun _ => ?_)
  refine lv_iload_n hx hb dX6_takeVal_14 rfl (lv_at hl 0 rfl) ?_
  refine lv_bipush (v := 13) hx hb dX6_takeVal_15 (by decide) ?_
  refine gy_lt (a := (Kd t)) (b := 13) (tgt := 45) hx hb (by omega) (by omega) dX6_takeVal_17 (by decide) (fun c_1 => ?_) (fun c_1 => ?_)
  · refine lv_iload_n hx hb dX6_takeVal_45 rfl (lv_at hl 0 rfl) ?_
    refine lv_bipush (v := 20) hx hb dX6_takeVal_46 (by decide) ?_
    refine gy_ne (a := (Kd t)) (b := 20) (tgt := 62) hx hb (by omega) (by omega) dX6_takeVal_48 (by decide) (fun c_2 => ?_) (fun c_2 => ?_)
    · refine lv_aload_n hx hb dX6_takeVal_62 rfl (lv_at hl 1 rfl) ?_
      refine lv_iconst (v := (-1)) hx hb dX6_takeVal_63 (by decide) ?_
      refine va_put (D := D) (ci := 6) (v := .int (-1)) (ty := .int) (C := RX6) (T := TX6) (N := 12) hx hb hts (fun _ h => List.mem_cons_of_mem _ (List.mem_append_left _ (List.mem_append_right _ h))) tyX6 tyX6_ok nmX6 hown hK hP hD hS 0 rfl rfl 10 (by decide) (hts (.fieldLink RX6 122 "LitmusHall$Reader" "valueReg" "I") (by decide +kernel)) (fun _ h9 => h9) rfl (by decide +kernel) rfl rfl (Nat.le_of_ble_eq_true rfl) dX6_takeVal_64 (fun H locs hP hD hS => ?_)
      have hP : va_P D vwCl [(h0, .inr (6, [v0, .int pv, .int fv, v3, .ref k4, .ref k5, .ref k6, v7, .int (nI t), v9, .int (-1), .int vl])), (k4, .inl (cI, 501, .inl (fun j => nI (Kd j)))), (k5, .inl (cI, 501, .inl sf)), (k6, .inl (cI, 501, .inl nf))] H := hP
      have hD : va_D A [(h0, .inr (6, [v0, .int pv, .int fv, v3, .ref k4, .ref k5, .ref k6, v7, .int (nI t), v9, .int (-1), .int vl])), (k4, .inl (cI, 501, .inl (fun j => nI (Kd j)))), (k5, .inl (cI, 501, .inl sf)), (k6, .inl (cI, 501, .inl nf))] := hD
      refine lv_aload_n hx hb dX6_takeVal_67 rfl (lv_at hl 1 rfl) ?_
      refine lv_iload_n hx hb dX6_takeVal_68 rfl (lv_at hl 0 rfl) ?_
      refine lv_bipush (v := 20) hx hb dX6_takeVal_69 (by decide) ?_
      refine gy_ne (a := (Kd t)) (b := 20) (tgt := 87) hx hb (by omega) (by omega) dX6_takeVal_71 (by decide) (fun c_3 => ?_) (fun c_3 => ?_)
      · refine lv_aload_n hx hb dX6_takeVal_87 rfl (lv_at hl 1 rfl) ?_
        refine va_get (D := D) (ci := 6) (v := .ref k6) (C := RX6) (T := TX6) (N := 12) hx hb hts (fun _ h => List.mem_cons_of_mem _ (List.mem_append_left _ (List.mem_append_right _ h))) hown hK hP 0 rfl rfl 6 (by decide) (hts (.fieldLink RX6 29 "LitmusHall$Reader" "numbers" "[I") (by decide +kernel)) (fun _ h9 => h9) rfl dX6_takeVal_88 ?_
        refine lv_aload_n hx hb dX6_takeVal_91 rfl (lv_at hl 1 rfl) ?_
        refine va_get (D := D) (ci := 6) (v := .int (nI t)) (C := RX6) (T := TX6) (N := 12) hx hb hts (fun _ h => List.mem_cons_of_mem _ (List.mem_append_left _ (List.mem_append_right _ h))) hown hK hP 0 rfl rfl 8 (by decide) (hts (.fieldLink RX6 45 "LitmusHall$Reader" "at" "I") (by decide +kernel)) (fun _ h9 => h9) rfl dX6_takeVal_92 ?_
        refine gy_ild (i := t) hx hb hK hP 3 rfl (by omega) (by omega) dX6_takeVal_95 ?_
        refine va_put (D := D) (ci := 6) (v := .int (nf t)) (ty := .int) (C := RX6) (T := TX6) (N := 12) hx hb hts (fun _ h => List.mem_cons_of_mem _ (List.mem_append_left _ (List.mem_append_right _ h))) tyX6 tyX6_ok nmX6 hown hK hP hD hS 0 rfl rfl 11 (by decide) (hts (.fieldLink RX6 108 "LitmusHall$Reader" "value" "I") (by decide +kernel)) (fun _ h9 => h9) rfl (by decide +kernel) rfl rfl (Nat.le_of_ble_eq_true rfl) dX6_takeVal_96 (fun H locs hP hD hS => ?_)
        have hP : va_P D vwCl [(h0, .inr (6, [v0, .int pv, .int fv, v3, .ref k4, .ref k5, .ref k6, v7, .int (nI t), v9, .int (-1), .int (nf t)])), (k4, .inl (cI, 501, .inl (fun j => nI (Kd j)))), (k5, .inl (cI, 501, .inl sf)), (k6, .inl (cI, 501, .inl nf))] H := hP
        have hD : va_D A [(h0, .inr (6, [v0, .int pv, .int fv, v3, .ref k4, .ref k5, .ref k6, v7, .int (nI t), v9, .int (-1), .int (nf t)])), (k4, .inl (cI, 501, .inl (fun j => nI (Kd j)))), (k5, .inl (cI, 501, .inl sf)), (k6, .inl (cI, 501, .inl nf))] := hD
        refine lv_aload_n hx hb dX6_takeVal_99 rfl (lv_at hl 1 rfl) ?_
        refine lv_bipush (v := 16) hx hb dX6_takeVal_100 (by decide) ?_
        refine gx_goi (wc := [(h0, .inr (6, [v0, .int pv, .int fv, v3, .ref k4, .ref k5, .ref k6, v7, .int (nI t), v9, .int (-1), .int (nf t)])), (k4, .inl (cI, 501, .inl (fun j => nI (Kd j)))), (k5, .inl (cI, 501, .inl sf))]) (wr := [(k6, .inl (cI, 501, .inl nf))]) (va_runV (As := [.int 16]) (rest := []) ⟨hx, hb, hml, hown, hts⟩ (x_take l D cI cB cZ h0 k4 k5 (v0) (v3) (.ref k6) (v7) (v9) (.int (-1)) (.int (nf t)) pv fv Kd sf t 16 (by omega) (hR.1 _ (by omega)) (by first | decide | omega | exact hR.1 _ (by omega)) _) (cwV 1 hts gP_x_takeVal1__x_take rfl rfl rfl (by decide +kernel) ⟨Nat.le_of_ble_eq_true rfl, Nat.le_of_ble_eq_true rfl⟩) (gx_preV (ci := 6) (q0 := 0) hK gN.nil hP hD [0, 1, 2] rfl rfl rfl rfl) rfl rfl hl.1 rfl (lv_room (Nat.le_of_ble_eq_true rfl)) dX6_takeVal_102 ⟨Nat.le_of_ble_eq_true rfl, Nat.le_of_ble_eq_true rfl⟩) hP hD hS hA [0, 1, 2] [3] rfl rfl rfl (by decide) (fun r1 w1 H locs hp hP hD hS => ?_)
        obtain ⟨e_4, e_5, e_6, e_7, hq_8, hx102_0, h9, rfl⟩ := hp
        have h9 := h9.symm
        subst h9
        have hq_8 : (e_4 = 0 ∧ e_7 = t ∧ ¬ e_6 = 0) ∨ (e_4 = 1 ∧ e_7 = t + 1 ∧ t < 500 ∧ nI (Kd t) = nI 16 ∧ e_6 = fv) := hq_8
        have hx102_0 : rOut (rTake Kd 16 t) e_7 (sf e_7) e_4 fv pv e_6 e_5 := hx102_0
        have htk := hq_8
        have htt := gTk0 htk (by omega)
        have hP := hP.sub (ws' := [(h0, .inr (6, [v0, .int e_5, .int e_6, v3, .ref k4, .ref k5, .ref k6, v7, .int (nI e_7), v9, .int (-1), .int (nf t)])), (k4, .inl (cI, 501, .inl (fun j => nI (Kd j)))), (k5, .inl (cI, 501, .inl sf)), (k6, .inl (cI, 501, .inl nf))]) [1, 2, 3, 0] rfl
        have hD := hD.sub (ws' := [(h0, .inr (6, [v0, .int e_5, .int e_6, v3, .ref k4, .ref k5, .ref k6, v7, .int (nI e_7), v9, .int (-1), .int (nf t)])), (k4, .inl (cI, 501, .inl (fun j => nI (Kd j)))), (k5, .inl (cI, 501, .inl sf)), (k6, .inl (cI, 501, .inl nf))]) [1, 2, 3, 0] (by decide) rfl
        exact gx_zret (w' := [(h0, .inr (6, [v0, .int e_5, .int e_6, v3, .ref k4, .ref k5, .ref k6, v7, .int (nI e_7), v9, .int (-1), .int (nf t)])), (k4, .inl (cI, 501, .inl (fun j => nI (Kd j)))), (k5, .inl (cI, 501, .inl sf)), (k6, .inl (cI, 501, .inl nf))]) hx hb hr hlk hK hP hD hS (Nat.le_of_ble_eq_true rfl) (Nat.le_of_ble_eq_true rfl) dX6_takeVal_105 (gy_z01 (gTk1 htk)) ⟨e_4, e_5, e_6, e_7, (nf t), (-1), (by first | exact gTk2 htk (Or.inl rfl) | exact gTk4 (gTk2 htk (Or.inl rfl)) (gTkY htk0 c_2).2.2.2 htt0.1 | exact gTk4 (gTk2 htk (Or.inl rfl)) (gTkY htk0 c_3).2.2.2 htt0.1), (by omega), (by first | (exfalso; omega) | exact rOut_e (rVal_n (by omega)) (rOut_e (rInt_n (by omega)) hx102_0) | exact rOut_e (rVal_n (by omega)) (rOut_e (rInt_m (by omega)) (rOut_seq hx54_0 c_2 hx102_0))), (fun _ => ⟨by first | (exfalso; omega) | exact vRg_n (by omega), by first | (exfalso; omega) | exact (vInt_n (by omega)).trans (vVl_n (by omega)) | exact (vInt_m (by omega) (gTkY htk0 c_2).1).trans (vVl_n (by omega))⟩), rfl, rfl⟩
      · refine lv_aload_n hx hb dX6_takeVal_74 rfl (lv_at hl 1 rfl) ?_
        refine va_get (D := D) (ci := 6) (v := .ref k6) (C := RX6) (T := TX6) (N := 12) hx hb hts (fun _ h => List.mem_cons_of_mem _ (List.mem_append_left _ (List.mem_append_right _ h))) hown hK hP 0 rfl rfl 6 (by decide) (hts (.fieldLink RX6 29 "LitmusHall$Reader" "numbers" "[I") (by decide +kernel)) (fun _ h9 => h9) rfl dX6_takeVal_75 ?_
        refine lv_aload_n hx hb dX6_takeVal_78 rfl (lv_at hl 1 rfl) ?_
        refine va_get (D := D) (ci := 6) (v := .int (nI t)) (C := RX6) (T := TX6) (N := 12) hx hb hts (fun _ h => List.mem_cons_of_mem _ (List.mem_append_left _ (List.mem_append_right _ h))) hown hK hP 0 rfl rfl 8 (by decide) (hts (.fieldLink RX6 45 "LitmusHall$Reader" "at" "I") (by decide +kernel)) (fun _ h9 => h9) rfl dX6_takeVal_79 ?_
        refine gy_ild (i := t) hx hb hK hP 3 rfl (by omega) (by omega) dX6_takeVal_82 ?_
        refine lv_ineg hx hb dX6_takeVal_83 ?_
        refine lv_goto (tgt := 96) hx hb dX6_takeVal_84 (by decide) ?_
        refine va_put (D := D) (ci := 6) (v := .int (-(nf t))) (ty := .int) (C := RX6) (T := TX6) (N := 12) hx hb hts (fun _ h => List.mem_cons_of_mem _ (List.mem_append_left _ (List.mem_append_right _ h))) tyX6 tyX6_ok nmX6 hown hK hP hD hS 0 rfl rfl 11 (by decide) (hts (.fieldLink RX6 108 "LitmusHall$Reader" "value" "I") (by decide +kernel)) (fun _ h9 => h9) rfl (by decide +kernel) rfl rfl (Nat.le_of_ble_eq_true rfl) dX6_takeVal_96 (fun H locs hP hD hS => ?_)
        have hP : va_P D vwCl [(h0, .inr (6, [v0, .int pv, .int fv, v3, .ref k4, .ref k5, .ref k6, v7, .int (nI t), v9, .int (-1), .int (-(nf t))])), (k4, .inl (cI, 501, .inl (fun j => nI (Kd j)))), (k5, .inl (cI, 501, .inl sf)), (k6, .inl (cI, 501, .inl nf))] H := hP
        have hD : va_D A [(h0, .inr (6, [v0, .int pv, .int fv, v3, .ref k4, .ref k5, .ref k6, v7, .int (nI t), v9, .int (-1), .int (-(nf t))])), (k4, .inl (cI, 501, .inl (fun j => nI (Kd j)))), (k5, .inl (cI, 501, .inl sf)), (k6, .inl (cI, 501, .inl nf))] := hD
        refine lv_aload_n hx hb dX6_takeVal_99 rfl (lv_at hl 1 rfl) ?_
        refine lv_bipush (v := 16) hx hb dX6_takeVal_100 (by decide) ?_
        refine gx_goi (wc := [(h0, .inr (6, [v0, .int pv, .int fv, v3, .ref k4, .ref k5, .ref k6, v7, .int (nI t), v9, .int (-1), .int (-(nf t))])), (k4, .inl (cI, 501, .inl (fun j => nI (Kd j)))), (k5, .inl (cI, 501, .inl sf))]) (wr := [(k6, .inl (cI, 501, .inl nf))]) (va_runV (As := [.int 16]) (rest := []) ⟨hx, hb, hml, hown, hts⟩ (x_take l D cI cB cZ h0 k4 k5 (v0) (v3) (.ref k6) (v7) (v9) (.int (-1)) (.int (-(nf t))) pv fv Kd sf t 16 (by omega) (hR.1 _ (by omega)) (by first | decide | omega | exact hR.1 _ (by omega)) _) (cwV 1 hts gP_x_takeVal1__x_take rfl rfl rfl (by decide +kernel) ⟨Nat.le_of_ble_eq_true rfl, Nat.le_of_ble_eq_true rfl⟩) (gx_preV (ci := 6) (q0 := 0) hK gN.nil hP hD [0, 1, 2] rfl rfl rfl rfl) rfl rfl hl.1 rfl (lv_room (Nat.le_of_ble_eq_true rfl)) dX6_takeVal_102 ⟨Nat.le_of_ble_eq_true rfl, Nat.le_of_ble_eq_true rfl⟩) hP hD hS hA [0, 1, 2] [3] rfl rfl rfl (by decide) (fun r1 w1 H locs hp hP hD hS => ?_)
        obtain ⟨e_9, e_10, e_11, e_12, hq_13, hx102_0, h9, rfl⟩ := hp
        have h9 := h9.symm
        subst h9
        have hq_13 : (e_9 = 0 ∧ e_12 = t ∧ ¬ e_11 = 0) ∨ (e_9 = 1 ∧ e_12 = t + 1 ∧ t < 500 ∧ nI (Kd t) = nI 16 ∧ e_11 = fv) := hq_13
        have hx102_0 : rOut (rTake Kd 16 t) e_12 (sf e_12) e_9 fv pv e_11 e_10 := hx102_0
        have htk := hq_13
        have htt := gTk0 htk (by omega)
        have hP := hP.sub (ws' := [(h0, .inr (6, [v0, .int e_10, .int e_11, v3, .ref k4, .ref k5, .ref k6, v7, .int (nI e_12), v9, .int (-1), .int (-(nf t))])), (k4, .inl (cI, 501, .inl (fun j => nI (Kd j)))), (k5, .inl (cI, 501, .inl sf)), (k6, .inl (cI, 501, .inl nf))]) [1, 2, 3, 0] rfl
        have hD := hD.sub (ws' := [(h0, .inr (6, [v0, .int e_10, .int e_11, v3, .ref k4, .ref k5, .ref k6, v7, .int (nI e_12), v9, .int (-1), .int (-(nf t))])), (k4, .inl (cI, 501, .inl (fun j => nI (Kd j)))), (k5, .inl (cI, 501, .inl sf)), (k6, .inl (cI, 501, .inl nf))]) [1, 2, 3, 0] (by decide) rfl
        exact gx_zret (w' := [(h0, .inr (6, [v0, .int e_10, .int e_11, v3, .ref k4, .ref k5, .ref k6, v7, .int (nI e_12), v9, .int (-1), .int (-(nf t))])), (k4, .inl (cI, 501, .inl (fun j => nI (Kd j)))), (k5, .inl (cI, 501, .inl sf)), (k6, .inl (cI, 501, .inl nf))]) hx hb hr hlk hK hP hD hS (Nat.le_of_ble_eq_true rfl) (Nat.le_of_ble_eq_true rfl) dX6_takeVal_105 (gy_z01 (gTk1 htk)) ⟨e_9, e_10, e_11, e_12, (-(nf t)), (-1), (by first | exact gTk2 htk (Or.inl rfl) | exact gTk4 (gTk2 htk (Or.inl rfl)) (gTkY htk0 c_2).2.2.2 htt0.1 | exact gTk4 (gTk2 htk (Or.inl rfl)) (gTkY htk0 c_3).2.2.2 htt0.1), (by omega), (by first | (exfalso; omega) | exact rOut_e (rVal_n (by omega)) (rOut_e (rInt_n (by omega)) hx102_0) | exact rOut_e (rVal_n (by omega)) (rOut_e (rInt_m (by omega)) (rOut_seq hx54_0 c_2 hx102_0))), (fun _ => ⟨by first | (exfalso; omega) | exact vRg_n (by omega), by first | (exfalso; omega) | exact (vInt_n (by omega)).trans (vVl_n (by omega)) | exact (vInt_m (by omega) (gTkY htk0 c_2).1).trans (vVl_n (by omega))⟩), rfl, rfl⟩
    · refine lv_aload_n hx hb dX6_takeVal_51 rfl (lv_at hl 1 rfl) ?_
      refine lv_bipush (v := 20) hx hb dX6_takeVal_52 (by decide) ?_
      refine gx_goi (wc := [(h0, .inr (6, [v0, .int pv, .int fv, v3, .ref k4, .ref k5, .ref k6, v7, .int (nI t), v9, .int vr, .int vl])), (k4, .inl (cI, 501, .inl (fun j => nI (Kd j)))), (k5, .inl (cI, 501, .inl sf))]) (wr := [(k6, .inl (cI, 501, .inl nf))]) (va_runV (As := [.int 20]) (rest := []) ⟨hx, hb, hml, hown, hts⟩ (x_take l D cI cB cZ h0 k4 k5 (v0) (v3) (.ref k6) (v7) (v9) (.int vr) (.int vl) pv fv Kd sf t 20 (by omega) (hR.1 _ (by omega)) (by first | decide | omega | exact hR.1 _ (by omega)) _) (cwV 1 hts gP_x_takeVal1__x_take rfl rfl rfl (by decide +kernel) ⟨Nat.le_of_ble_eq_true rfl, Nat.le_of_ble_eq_true rfl⟩) (gx_preV (ci := 6) (q0 := 0) hK gN.nil hP hD [0, 1, 2] rfl rfl rfl rfl) rfl rfl hl.1 rfl (lv_room (Nat.le_of_ble_eq_true rfl)) dX6_takeVal_54 ⟨Nat.le_of_ble_eq_true rfl, Nat.le_of_ble_eq_true rfl⟩) hP hD hS hA [0, 1, 2] [3] rfl rfl rfl (by decide) (fun r1 w1 H locs hp hP hD hS => ?_)
      obtain ⟨e_14, e_15, e_16, e_17, hq_18, hx54_0, h9, rfl⟩ := hp
      have h9 := h9.symm
      subst h9
      have hq_18 : (e_14 = 0 ∧ e_17 = t ∧ ¬ e_16 = 0) ∨ (e_14 = 1 ∧ e_17 = t + 1 ∧ t < 500 ∧ nI (Kd t) = nI 20 ∧ e_16 = fv) := hq_18
      have hx54_0 : rOut (rTake Kd 20 t) e_17 (sf e_17) e_14 fv pv e_16 e_15 := hx54_0
      have htk0 := hq_18
      have htt0 := gTk0 htk0 (by omega)
      refine lv_if_ne (tgt := 62) hx hb dX6_takeVal_57 (by decide) (fun c_19 => ?_) (fun c_19 => ?_)
      · refine lv_aload_n hx hb dX6_takeVal_62 rfl (lv_at hl 1 rfl) ?_
        refine lv_iconst (v := (-1)) hx hb dX6_takeVal_63 (by decide) ?_
        refine va_put (D := D) (ci := 6) (v := .int (-1)) (ty := .int) (C := RX6) (T := TX6) (N := 12) hx hb hts (fun _ h => List.mem_cons_of_mem _ (List.mem_append_left _ (List.mem_append_right _ h))) tyX6 tyX6_ok nmX6 hown hK hP hD hS 1 rfl rfl 10 (by decide) (hts (.fieldLink RX6 122 "LitmusHall$Reader" "valueReg" "I") (by decide +kernel)) (fun _ h9 => h9) rfl (by decide +kernel) rfl rfl (Nat.le_of_ble_eq_true rfl) dX6_takeVal_64 (fun H locs hP hD hS => ?_)
        have hP : va_P D vwCl [(k6, .inl (cI, 501, .inl nf)), (h0, .inr (6, [v0, .int e_15, .int e_16, v3, .ref k4, .ref k5, .ref k6, v7, .int (nI e_17), v9, .int (-1), .int vl])), (k4, .inl (cI, 501, .inl (fun j => nI (Kd j)))), (k5, .inl (cI, 501, .inl sf))] H := hP
        have hD : va_D A [(k6, .inl (cI, 501, .inl nf)), (h0, .inr (6, [v0, .int e_15, .int e_16, v3, .ref k4, .ref k5, .ref k6, v7, .int (nI e_17), v9, .int (-1), .int vl])), (k4, .inl (cI, 501, .inl (fun j => nI (Kd j)))), (k5, .inl (cI, 501, .inl sf))] := hD
        refine lv_aload_n hx hb dX6_takeVal_67 rfl (lv_at hl 1 rfl) ?_
        refine lv_iload_n hx hb dX6_takeVal_68 rfl (lv_at hl 0 rfl) ?_
        refine lv_bipush (v := 20) hx hb dX6_takeVal_69 (by decide) ?_
        refine gy_ne (a := (Kd t)) (b := 20) (tgt := 87) hx hb (by omega) (by omega) dX6_takeVal_71 (by decide) (fun c_20 => ?_) (fun c_20 => ?_)
        · refine lv_aload_n hx hb dX6_takeVal_87 rfl (lv_at hl 1 rfl) ?_
          refine va_get (D := D) (ci := 6) (v := .ref k6) (C := RX6) (T := TX6) (N := 12) hx hb hts (fun _ h => List.mem_cons_of_mem _ (List.mem_append_left _ (List.mem_append_right _ h))) hown hK hP 1 rfl rfl 6 (by decide) (hts (.fieldLink RX6 29 "LitmusHall$Reader" "numbers" "[I") (by decide +kernel)) (fun _ h9 => h9) rfl dX6_takeVal_88 ?_
          refine lv_aload_n hx hb dX6_takeVal_91 rfl (lv_at hl 1 rfl) ?_
          refine va_get (D := D) (ci := 6) (v := .int (nI e_17)) (C := RX6) (T := TX6) (N := 12) hx hb hts (fun _ h => List.mem_cons_of_mem _ (List.mem_append_left _ (List.mem_append_right _ h))) hown hK hP 1 rfl rfl 8 (by decide) (hts (.fieldLink RX6 45 "LitmusHall$Reader" "at" "I") (by decide +kernel)) (fun _ h9 => h9) rfl dX6_takeVal_92 ?_
          refine gy_ild (i := e_17) hx hb hK hP 0 rfl (by omega) (by omega) dX6_takeVal_95 ?_
          refine va_put (D := D) (ci := 6) (v := .int (nf e_17)) (ty := .int) (C := RX6) (T := TX6) (N := 12) hx hb hts (fun _ h => List.mem_cons_of_mem _ (List.mem_append_left _ (List.mem_append_right _ h))) tyX6 tyX6_ok nmX6 hown hK hP hD hS 1 rfl rfl 11 (by decide) (hts (.fieldLink RX6 108 "LitmusHall$Reader" "value" "I") (by decide +kernel)) (fun _ h9 => h9) rfl (by decide +kernel) rfl rfl (Nat.le_of_ble_eq_true rfl) dX6_takeVal_96 (fun H locs hP hD hS => ?_)
          have hP : va_P D vwCl [(k6, .inl (cI, 501, .inl nf)), (h0, .inr (6, [v0, .int e_15, .int e_16, v3, .ref k4, .ref k5, .ref k6, v7, .int (nI e_17), v9, .int (-1), .int (nf e_17)])), (k4, .inl (cI, 501, .inl (fun j => nI (Kd j)))), (k5, .inl (cI, 501, .inl sf))] H := hP
          have hD : va_D A [(k6, .inl (cI, 501, .inl nf)), (h0, .inr (6, [v0, .int e_15, .int e_16, v3, .ref k4, .ref k5, .ref k6, v7, .int (nI e_17), v9, .int (-1), .int (nf e_17)])), (k4, .inl (cI, 501, .inl (fun j => nI (Kd j)))), (k5, .inl (cI, 501, .inl sf))] := hD
          refine lv_aload_n hx hb dX6_takeVal_99 rfl (lv_at hl 1 rfl) ?_
          refine lv_bipush (v := 16) hx hb dX6_takeVal_100 (by decide) ?_
          refine gx_goi (wc := [(h0, .inr (6, [v0, .int e_15, .int e_16, v3, .ref k4, .ref k5, .ref k6, v7, .int (nI e_17), v9, .int (-1), .int (nf e_17)])), (k4, .inl (cI, 501, .inl (fun j => nI (Kd j)))), (k5, .inl (cI, 501, .inl sf))]) (wr := [(k6, .inl (cI, 501, .inl nf))]) (va_runV (As := [.int 16]) (rest := []) ⟨hx, hb, hml, hown, hts⟩ (x_take l D cI cB cZ h0 k4 k5 (v0) (v3) (.ref k6) (v7) (v9) (.int (-1)) (.int (nf e_17)) e_15 e_16 Kd sf e_17 16 (by omega) (hR.1 _ (by omega)) (by first | decide | omega | exact hR.1 _ (by omega)) _) (cwV 1 hts gP_x_takeVal1__x_take rfl rfl rfl (by decide +kernel) ⟨Nat.le_of_ble_eq_true rfl, Nat.le_of_ble_eq_true rfl⟩) (gx_preV (ci := 6) (q0 := 0) hK gN.nil hP hD [1, 2, 3] rfl rfl rfl rfl) rfl rfl hl.1 rfl (lv_room (Nat.le_of_ble_eq_true rfl)) dX6_takeVal_102 ⟨Nat.le_of_ble_eq_true rfl, Nat.le_of_ble_eq_true rfl⟩) hP hD hS hA [1, 2, 3] [0] rfl rfl rfl (by decide) (fun r1 w1 H locs hp hP hD hS => ?_)
          obtain ⟨e_21, e_22, e_23, e_24, hq_25, hx102_0, h9, rfl⟩ := hp
          have h9 := h9.symm
          subst h9
          have hq_25 : (e_21 = 0 ∧ e_24 = e_17 ∧ ¬ e_23 = 0) ∨ (e_21 = 1 ∧ e_24 = e_17 + 1 ∧ e_17 < 500 ∧ nI (Kd e_17) = nI 16 ∧ e_23 = e_16) := hq_25
          have hx102_0 : rOut (rTake Kd 16 e_17) e_24 (sf e_24) e_21 e_16 e_15 e_23 e_22 := hx102_0
          have htk := hq_25
          have htt := gTk0 htk (by omega)
          have hP := hP.sub (ws' := [(h0, .inr (6, [v0, .int e_22, .int e_23, v3, .ref k4, .ref k5, .ref k6, v7, .int (nI e_24), v9, .int (-1), .int (nf e_17)])), (k4, .inl (cI, 501, .inl (fun j => nI (Kd j)))), (k5, .inl (cI, 501, .inl sf)), (k6, .inl (cI, 501, .inl nf))]) [1, 2, 3, 0] rfl
          have hD := hD.sub (ws' := [(h0, .inr (6, [v0, .int e_22, .int e_23, v3, .ref k4, .ref k5, .ref k6, v7, .int (nI e_24), v9, .int (-1), .int (nf e_17)])), (k4, .inl (cI, 501, .inl (fun j => nI (Kd j)))), (k5, .inl (cI, 501, .inl sf)), (k6, .inl (cI, 501, .inl nf))]) [1, 2, 3, 0] (by decide) rfl
          exact gx_zret (w' := [(h0, .inr (6, [v0, .int e_22, .int e_23, v3, .ref k4, .ref k5, .ref k6, v7, .int (nI e_24), v9, .int (-1), .int (nf e_17)])), (k4, .inl (cI, 501, .inl (fun j => nI (Kd j)))), (k5, .inl (cI, 501, .inl sf)), (k6, .inl (cI, 501, .inl nf))]) hx hb hr hlk hK hP hD hS (Nat.le_of_ble_eq_true rfl) (Nat.le_of_ble_eq_true rfl) dX6_takeVal_105 (gy_z01 (gTk1 htk)) ⟨e_21, e_22, e_23, e_24, (nf e_17), (-1), (by first | exact gTk2 htk (Or.inl rfl) | exact gTk4 (gTk2 htk (Or.inl rfl)) (gTkY htk0 c_19).2.2.2 htt0.1 | exact gTk4 (gTk2 htk (Or.inl rfl)) (gTkY htk0 c_20).2.2.2 htt0.1), (by omega), (by first | (exfalso; omega) | exact rOut_e (rVal_n (by omega)) (rOut_e (rInt_n (by omega)) hx102_0) | exact rOut_e (rVal_n (by omega)) (rOut_e (rInt_m (by omega)) (rOut_seq hx54_0 c_19 hx102_0))), (fun _ => ⟨by first | (exfalso; omega) | exact vRg_n (by omega), by first | (exfalso; omega) | exact (vInt_n (by omega)).trans (vVl_n (by omega)) | exact (vInt_m (by omega) (gTkY htk0 c_19).1).trans (vVl_n (by omega))⟩), rfl, rfl⟩
        · refine lv_aload_n hx hb dX6_takeVal_74 rfl (lv_at hl 1 rfl) ?_
          refine va_get (D := D) (ci := 6) (v := .ref k6) (C := RX6) (T := TX6) (N := 12) hx hb hts (fun _ h => List.mem_cons_of_mem _ (List.mem_append_left _ (List.mem_append_right _ h))) hown hK hP 1 rfl rfl 6 (by decide) (hts (.fieldLink RX6 29 "LitmusHall$Reader" "numbers" "[I") (by decide +kernel)) (fun _ h9 => h9) rfl dX6_takeVal_75 ?_
          refine lv_aload_n hx hb dX6_takeVal_78 rfl (lv_at hl 1 rfl) ?_
          refine va_get (D := D) (ci := 6) (v := .int (nI e_17)) (C := RX6) (T := TX6) (N := 12) hx hb hts (fun _ h => List.mem_cons_of_mem _ (List.mem_append_left _ (List.mem_append_right _ h))) hown hK hP 1 rfl rfl 8 (by decide) (hts (.fieldLink RX6 45 "LitmusHall$Reader" "at" "I") (by decide +kernel)) (fun _ h9 => h9) rfl dX6_takeVal_79 ?_
          refine gy_ild (i := e_17) hx hb hK hP 0 rfl (by omega) (by omega) dX6_takeVal_82 ?_
          refine lv_ineg hx hb dX6_takeVal_83 ?_
          refine lv_goto (tgt := 96) hx hb dX6_takeVal_84 (by decide) ?_
          refine va_put (D := D) (ci := 6) (v := .int (-(nf e_17))) (ty := .int) (C := RX6) (T := TX6) (N := 12) hx hb hts (fun _ h => List.mem_cons_of_mem _ (List.mem_append_left _ (List.mem_append_right _ h))) tyX6 tyX6_ok nmX6 hown hK hP hD hS 1 rfl rfl 11 (by decide) (hts (.fieldLink RX6 108 "LitmusHall$Reader" "value" "I") (by decide +kernel)) (fun _ h9 => h9) rfl (by decide +kernel) rfl rfl (Nat.le_of_ble_eq_true rfl) dX6_takeVal_96 (fun H locs hP hD hS => ?_)
          have hP : va_P D vwCl [(k6, .inl (cI, 501, .inl nf)), (h0, .inr (6, [v0, .int e_15, .int e_16, v3, .ref k4, .ref k5, .ref k6, v7, .int (nI e_17), v9, .int (-1), .int (-(nf e_17))])), (k4, .inl (cI, 501, .inl (fun j => nI (Kd j)))), (k5, .inl (cI, 501, .inl sf))] H := hP
          have hD : va_D A [(k6, .inl (cI, 501, .inl nf)), (h0, .inr (6, [v0, .int e_15, .int e_16, v3, .ref k4, .ref k5, .ref k6, v7, .int (nI e_17), v9, .int (-1), .int (-(nf e_17))])), (k4, .inl (cI, 501, .inl (fun j => nI (Kd j)))), (k5, .inl (cI, 501, .inl sf))] := hD
          refine lv_aload_n hx hb dX6_takeVal_99 rfl (lv_at hl 1 rfl) ?_
          refine lv_bipush (v := 16) hx hb dX6_takeVal_100 (by decide) ?_
          refine gx_goi (wc := [(h0, .inr (6, [v0, .int e_15, .int e_16, v3, .ref k4, .ref k5, .ref k6, v7, .int (nI e_17), v9, .int (-1), .int (-(nf e_17))])), (k4, .inl (cI, 501, .inl (fun j => nI (Kd j)))), (k5, .inl (cI, 501, .inl sf))]) (wr := [(k6, .inl (cI, 501, .inl nf))]) (va_runV (As := [.int 16]) (rest := []) ⟨hx, hb, hml, hown, hts⟩ (x_take l D cI cB cZ h0 k4 k5 (v0) (v3) (.ref k6) (v7) (v9) (.int (-1)) (.int (-(nf e_17))) e_15 e_16 Kd sf e_17 16 (by omega) (hR.1 _ (by omega)) (by first | decide | omega | exact hR.1 _ (by omega)) _) (cwV 1 hts gP_x_takeVal1__x_take rfl rfl rfl (by decide +kernel) ⟨Nat.le_of_ble_eq_true rfl, Nat.le_of_ble_eq_true rfl⟩) (gx_preV (ci := 6) (q0 := 0) hK gN.nil hP hD [1, 2, 3] rfl rfl rfl rfl) rfl rfl hl.1 rfl (lv_room (Nat.le_of_ble_eq_true rfl)) dX6_takeVal_102 ⟨Nat.le_of_ble_eq_true rfl, Nat.le_of_ble_eq_true rfl⟩) hP hD hS hA [1, 2, 3] [0] rfl rfl rfl (by decide) (fun r1 w1 H locs hp hP hD hS => ?_)
          obtain ⟨e_26, e_27, e_28, e_29, hq_30, hx102_0, h9, rfl⟩ := hp
          have h9 := h9.symm
          subst h9
          have hq_30 : (e_26 = 0 ∧ e_29 = e_17 ∧ ¬ e_28 = 0) ∨ (e_26 = 1 ∧ e_29 = e_17 + 1 ∧ e_17 < 500 ∧ nI (Kd e_17) = nI 16 ∧ e_28 = e_16) := hq_30
          have hx102_0 : rOut (rTake Kd 16 e_17) e_29 (sf e_29) e_26 e_16 e_15 e_28 e_27 := hx102_0
          have htk := hq_30
          have htt := gTk0 htk (by omega)
          have hP := hP.sub (ws' := [(h0, .inr (6, [v0, .int e_27, .int e_28, v3, .ref k4, .ref k5, .ref k6, v7, .int (nI e_29), v9, .int (-1), .int (-(nf e_17))])), (k4, .inl (cI, 501, .inl (fun j => nI (Kd j)))), (k5, .inl (cI, 501, .inl sf)), (k6, .inl (cI, 501, .inl nf))]) [1, 2, 3, 0] rfl
          have hD := hD.sub (ws' := [(h0, .inr (6, [v0, .int e_27, .int e_28, v3, .ref k4, .ref k5, .ref k6, v7, .int (nI e_29), v9, .int (-1), .int (-(nf e_17))])), (k4, .inl (cI, 501, .inl (fun j => nI (Kd j)))), (k5, .inl (cI, 501, .inl sf)), (k6, .inl (cI, 501, .inl nf))]) [1, 2, 3, 0] (by decide) rfl
          exact gx_zret (w' := [(h0, .inr (6, [v0, .int e_27, .int e_28, v3, .ref k4, .ref k5, .ref k6, v7, .int (nI e_29), v9, .int (-1), .int (-(nf e_17))])), (k4, .inl (cI, 501, .inl (fun j => nI (Kd j)))), (k5, .inl (cI, 501, .inl sf)), (k6, .inl (cI, 501, .inl nf))]) hx hb hr hlk hK hP hD hS (Nat.le_of_ble_eq_true rfl) (Nat.le_of_ble_eq_true rfl) dX6_takeVal_105 (gy_z01 (gTk1 htk)) ⟨e_26, e_27, e_28, e_29, (-(nf e_17)), (-1), (by first | exact gTk2 htk (Or.inl rfl) | exact gTk4 (gTk2 htk (Or.inl rfl)) (gTkY htk0 c_19).2.2.2 htt0.1 | exact gTk4 (gTk2 htk (Or.inl rfl)) (gTkY htk0 c_20).2.2.2 htt0.1), (by omega), (by first | (exfalso; omega) | exact rOut_e (rVal_n (by omega)) (rOut_e (rInt_n (by omega)) hx102_0) | exact rOut_e (rVal_n (by omega)) (rOut_e (rInt_m (by omega)) (rOut_seq hx54_0 c_19 hx102_0))), (fun _ => ⟨by first | (exfalso; omega) | exact vRg_n (by omega), by first | (exfalso; omega) | exact (vInt_n (by omega)).trans (vVl_n (by omega)) | exact (vInt_m (by omega) (gTkY htk0 c_19).1).trans (vVl_n (by omega))⟩), rfl, rfl⟩
      · refine lv_iconst (v := 0) hx hb dX6_takeVal_60 (by decide) ?_
        have hP := hP.sub (ws' := [(h0, .inr (6, [v0, .int e_15, .int e_16, v3, .ref k4, .ref k5, .ref k6, v7, .int (nI e_17), v9, .int vr, .int vl])), (k4, .inl (cI, 501, .inl (fun j => nI (Kd j)))), (k5, .inl (cI, 501, .inl sf)), (k6, .inl (cI, 501, .inl nf))]) [1, 2, 3, 0] rfl
        have hD := hD.sub (ws' := [(h0, .inr (6, [v0, .int e_15, .int e_16, v3, .ref k4, .ref k5, .ref k6, v7, .int (nI e_17), v9, .int vr, .int vl])), (k4, .inl (cI, 501, .inl (fun j => nI (Kd j)))), (k5, .inl (cI, 501, .inl sf)), (k6, .inl (cI, 501, .inl nf))]) [1, 2, 3, 0] (by decide) rfl
        exact gx_zret (w' := [(h0, .inr (6, [v0, .int e_15, .int e_16, v3, .ref k4, .ref k5, .ref k6, v7, .int (nI e_17), v9, .int vr, .int vl])), (k4, .inl (cI, 501, .inl (fun j => nI (Kd j)))), (k5, .inl (cI, 501, .inl sf)), (k6, .inl (cI, 501, .inl nf))]) hx hb hr hlk hK hP hD hS (Nat.le_of_ble_eq_true rfl) (Nat.le_of_ble_eq_true rfl) dX6_takeVal_61 rfl ⟨0, e_15, e_16, e_17, vl, vr, (Or.inl ⟨rfl, by rcases htk0 with h | h; exact h.2.2; exact absurd (h.1.symm.trans c_19) (by decide)⟩), htt0, (rOut_e (rVal_n (by omega)) (rOut_e (rInt_m (by omega)) (rOut_stp hx54_0 c_19))), (fun h => absurd rfl h), rfl, rfl⟩
  · refine lv_iload_n hx hb dX6_takeVal_20 rfl (lv_at hl 0 rfl) ?_
    refine lv_bipush (v := 15) hx hb dX6_takeVal_21 (by decide) ?_
    refine gy_gt (a := (Kd t)) (b := 15) (tgt := 45) hx hb (by omega) (by omega) dX6_takeVal_23 (by decide) (fun c_31 => ?_) (fun c_31 => ?_)
    · refine lv_iload_n hx hb dX6_takeVal_45 rfl (lv_at hl 0 rfl) ?_
      refine lv_bipush (v := 20) hx hb dX6_takeVal_46 (by decide) ?_
      refine gy_ne (a := (Kd t)) (b := 20) (tgt := 62) hx hb (by omega) (by omega) dX6_takeVal_48 (by decide) (fun c_32 => ?_) (fun c_32 => ?_)
      · refine lv_aload_n hx hb dX6_takeVal_62 rfl (lv_at hl 1 rfl) ?_
        refine lv_iconst (v := (-1)) hx hb dX6_takeVal_63 (by decide) ?_
        refine va_put (D := D) (ci := 6) (v := .int (-1)) (ty := .int) (C := RX6) (T := TX6) (N := 12) hx hb hts (fun _ h => List.mem_cons_of_mem _ (List.mem_append_left _ (List.mem_append_right _ h))) tyX6 tyX6_ok nmX6 hown hK hP hD hS 0 rfl rfl 10 (by decide) (hts (.fieldLink RX6 122 "LitmusHall$Reader" "valueReg" "I") (by decide +kernel)) (fun _ h9 => h9) rfl (by decide +kernel) rfl rfl (Nat.le_of_ble_eq_true rfl) dX6_takeVal_64 (fun H locs hP hD hS => ?_)
        have hP : va_P D vwCl [(h0, .inr (6, [v0, .int pv, .int fv, v3, .ref k4, .ref k5, .ref k6, v7, .int (nI t), v9, .int (-1), .int vl])), (k4, .inl (cI, 501, .inl (fun j => nI (Kd j)))), (k5, .inl (cI, 501, .inl sf)), (k6, .inl (cI, 501, .inl nf))] H := hP
        have hD : va_D A [(h0, .inr (6, [v0, .int pv, .int fv, v3, .ref k4, .ref k5, .ref k6, v7, .int (nI t), v9, .int (-1), .int vl])), (k4, .inl (cI, 501, .inl (fun j => nI (Kd j)))), (k5, .inl (cI, 501, .inl sf)), (k6, .inl (cI, 501, .inl nf))] := hD
        refine lv_aload_n hx hb dX6_takeVal_67 rfl (lv_at hl 1 rfl) ?_
        refine lv_iload_n hx hb dX6_takeVal_68 rfl (lv_at hl 0 rfl) ?_
        refine lv_bipush (v := 20) hx hb dX6_takeVal_69 (by decide) ?_
        refine gy_ne (a := (Kd t)) (b := 20) (tgt := 87) hx hb (by omega) (by omega) dX6_takeVal_71 (by decide) (fun c_33 => ?_) (fun c_33 => ?_)
        · refine lv_aload_n hx hb dX6_takeVal_87 rfl (lv_at hl 1 rfl) ?_
          refine va_get (D := D) (ci := 6) (v := .ref k6) (C := RX6) (T := TX6) (N := 12) hx hb hts (fun _ h => List.mem_cons_of_mem _ (List.mem_append_left _ (List.mem_append_right _ h))) hown hK hP 0 rfl rfl 6 (by decide) (hts (.fieldLink RX6 29 "LitmusHall$Reader" "numbers" "[I") (by decide +kernel)) (fun _ h9 => h9) rfl dX6_takeVal_88 ?_
          refine lv_aload_n hx hb dX6_takeVal_91 rfl (lv_at hl 1 rfl) ?_
          refine va_get (D := D) (ci := 6) (v := .int (nI t)) (C := RX6) (T := TX6) (N := 12) hx hb hts (fun _ h => List.mem_cons_of_mem _ (List.mem_append_left _ (List.mem_append_right _ h))) hown hK hP 0 rfl rfl 8 (by decide) (hts (.fieldLink RX6 45 "LitmusHall$Reader" "at" "I") (by decide +kernel)) (fun _ h9 => h9) rfl dX6_takeVal_92 ?_
          refine gy_ild (i := t) hx hb hK hP 3 rfl (by omega) (by omega) dX6_takeVal_95 ?_
          refine va_put (D := D) (ci := 6) (v := .int (nf t)) (ty := .int) (C := RX6) (T := TX6) (N := 12) hx hb hts (fun _ h => List.mem_cons_of_mem _ (List.mem_append_left _ (List.mem_append_right _ h))) tyX6 tyX6_ok nmX6 hown hK hP hD hS 0 rfl rfl 11 (by decide) (hts (.fieldLink RX6 108 "LitmusHall$Reader" "value" "I") (by decide +kernel)) (fun _ h9 => h9) rfl (by decide +kernel) rfl rfl (Nat.le_of_ble_eq_true rfl) dX6_takeVal_96 (fun H locs hP hD hS => ?_)
          have hP : va_P D vwCl [(h0, .inr (6, [v0, .int pv, .int fv, v3, .ref k4, .ref k5, .ref k6, v7, .int (nI t), v9, .int (-1), .int (nf t)])), (k4, .inl (cI, 501, .inl (fun j => nI (Kd j)))), (k5, .inl (cI, 501, .inl sf)), (k6, .inl (cI, 501, .inl nf))] H := hP
          have hD : va_D A [(h0, .inr (6, [v0, .int pv, .int fv, v3, .ref k4, .ref k5, .ref k6, v7, .int (nI t), v9, .int (-1), .int (nf t)])), (k4, .inl (cI, 501, .inl (fun j => nI (Kd j)))), (k5, .inl (cI, 501, .inl sf)), (k6, .inl (cI, 501, .inl nf))] := hD
          refine lv_aload_n hx hb dX6_takeVal_99 rfl (lv_at hl 1 rfl) ?_
          refine lv_bipush (v := 16) hx hb dX6_takeVal_100 (by decide) ?_
          refine gx_goi (wc := [(h0, .inr (6, [v0, .int pv, .int fv, v3, .ref k4, .ref k5, .ref k6, v7, .int (nI t), v9, .int (-1), .int (nf t)])), (k4, .inl (cI, 501, .inl (fun j => nI (Kd j)))), (k5, .inl (cI, 501, .inl sf))]) (wr := [(k6, .inl (cI, 501, .inl nf))]) (va_runV (As := [.int 16]) (rest := []) ⟨hx, hb, hml, hown, hts⟩ (x_take l D cI cB cZ h0 k4 k5 (v0) (v3) (.ref k6) (v7) (v9) (.int (-1)) (.int (nf t)) pv fv Kd sf t 16 (by omega) (hR.1 _ (by omega)) (by first | decide | omega | exact hR.1 _ (by omega)) _) (cwV 1 hts gP_x_takeVal1__x_take rfl rfl rfl (by decide +kernel) ⟨Nat.le_of_ble_eq_true rfl, Nat.le_of_ble_eq_true rfl⟩) (gx_preV (ci := 6) (q0 := 0) hK gN.nil hP hD [0, 1, 2] rfl rfl rfl rfl) rfl rfl hl.1 rfl (lv_room (Nat.le_of_ble_eq_true rfl)) dX6_takeVal_102 ⟨Nat.le_of_ble_eq_true rfl, Nat.le_of_ble_eq_true rfl⟩) hP hD hS hA [0, 1, 2] [3] rfl rfl rfl (by decide) (fun r1 w1 H locs hp hP hD hS => ?_)
          obtain ⟨e_34, e_35, e_36, e_37, hq_38, hx102_0, h9, rfl⟩ := hp
          have h9 := h9.symm
          subst h9
          have hq_38 : (e_34 = 0 ∧ e_37 = t ∧ ¬ e_36 = 0) ∨ (e_34 = 1 ∧ e_37 = t + 1 ∧ t < 500 ∧ nI (Kd t) = nI 16 ∧ e_36 = fv) := hq_38
          have hx102_0 : rOut (rTake Kd 16 t) e_37 (sf e_37) e_34 fv pv e_36 e_35 := hx102_0
          have htk := hq_38
          have htt := gTk0 htk (by omega)
          have hP := hP.sub (ws' := [(h0, .inr (6, [v0, .int e_35, .int e_36, v3, .ref k4, .ref k5, .ref k6, v7, .int (nI e_37), v9, .int (-1), .int (nf t)])), (k4, .inl (cI, 501, .inl (fun j => nI (Kd j)))), (k5, .inl (cI, 501, .inl sf)), (k6, .inl (cI, 501, .inl nf))]) [1, 2, 3, 0] rfl
          have hD := hD.sub (ws' := [(h0, .inr (6, [v0, .int e_35, .int e_36, v3, .ref k4, .ref k5, .ref k6, v7, .int (nI e_37), v9, .int (-1), .int (nf t)])), (k4, .inl (cI, 501, .inl (fun j => nI (Kd j)))), (k5, .inl (cI, 501, .inl sf)), (k6, .inl (cI, 501, .inl nf))]) [1, 2, 3, 0] (by decide) rfl
          exact gx_zret (w' := [(h0, .inr (6, [v0, .int e_35, .int e_36, v3, .ref k4, .ref k5, .ref k6, v7, .int (nI e_37), v9, .int (-1), .int (nf t)])), (k4, .inl (cI, 501, .inl (fun j => nI (Kd j)))), (k5, .inl (cI, 501, .inl sf)), (k6, .inl (cI, 501, .inl nf))]) hx hb hr hlk hK hP hD hS (Nat.le_of_ble_eq_true rfl) (Nat.le_of_ble_eq_true rfl) dX6_takeVal_105 (gy_z01 (gTk1 htk)) ⟨e_34, e_35, e_36, e_37, (nf t), (-1), (by first | exact gTk2 htk (Or.inl rfl) | exact gTk4 (gTk2 htk (Or.inl rfl)) (gTkY htk0 c_32).2.2.2 htt0.1 | exact gTk4 (gTk2 htk (Or.inl rfl)) (gTkY htk0 c_33).2.2.2 htt0.1), (by omega), (by first | (exfalso; omega) | exact rOut_e (rVal_n (by omega)) (rOut_e (rInt_n (by omega)) hx102_0) | exact rOut_e (rVal_n (by omega)) (rOut_e (rInt_m (by omega)) (rOut_seq hx54_0 c_32 hx102_0))), (fun _ => ⟨by first | (exfalso; omega) | exact vRg_n (by omega), by first | (exfalso; omega) | exact (vInt_n (by omega)).trans (vVl_n (by omega)) | exact (vInt_m (by omega) (gTkY htk0 c_32).1).trans (vVl_n (by omega))⟩), rfl, rfl⟩
        · refine lv_aload_n hx hb dX6_takeVal_74 rfl (lv_at hl 1 rfl) ?_
          refine va_get (D := D) (ci := 6) (v := .ref k6) (C := RX6) (T := TX6) (N := 12) hx hb hts (fun _ h => List.mem_cons_of_mem _ (List.mem_append_left _ (List.mem_append_right _ h))) hown hK hP 0 rfl rfl 6 (by decide) (hts (.fieldLink RX6 29 "LitmusHall$Reader" "numbers" "[I") (by decide +kernel)) (fun _ h9 => h9) rfl dX6_takeVal_75 ?_
          refine lv_aload_n hx hb dX6_takeVal_78 rfl (lv_at hl 1 rfl) ?_
          refine va_get (D := D) (ci := 6) (v := .int (nI t)) (C := RX6) (T := TX6) (N := 12) hx hb hts (fun _ h => List.mem_cons_of_mem _ (List.mem_append_left _ (List.mem_append_right _ h))) hown hK hP 0 rfl rfl 8 (by decide) (hts (.fieldLink RX6 45 "LitmusHall$Reader" "at" "I") (by decide +kernel)) (fun _ h9 => h9) rfl dX6_takeVal_79 ?_
          refine gy_ild (i := t) hx hb hK hP 3 rfl (by omega) (by omega) dX6_takeVal_82 ?_
          refine lv_ineg hx hb dX6_takeVal_83 ?_
          refine lv_goto (tgt := 96) hx hb dX6_takeVal_84 (by decide) ?_
          refine va_put (D := D) (ci := 6) (v := .int (-(nf t))) (ty := .int) (C := RX6) (T := TX6) (N := 12) hx hb hts (fun _ h => List.mem_cons_of_mem _ (List.mem_append_left _ (List.mem_append_right _ h))) tyX6 tyX6_ok nmX6 hown hK hP hD hS 0 rfl rfl 11 (by decide) (hts (.fieldLink RX6 108 "LitmusHall$Reader" "value" "I") (by decide +kernel)) (fun _ h9 => h9) rfl (by decide +kernel) rfl rfl (Nat.le_of_ble_eq_true rfl) dX6_takeVal_96 (fun H locs hP hD hS => ?_)
          have hP : va_P D vwCl [(h0, .inr (6, [v0, .int pv, .int fv, v3, .ref k4, .ref k5, .ref k6, v7, .int (nI t), v9, .int (-1), .int (-(nf t))])), (k4, .inl (cI, 501, .inl (fun j => nI (Kd j)))), (k5, .inl (cI, 501, .inl sf)), (k6, .inl (cI, 501, .inl nf))] H := hP
          have hD : va_D A [(h0, .inr (6, [v0, .int pv, .int fv, v3, .ref k4, .ref k5, .ref k6, v7, .int (nI t), v9, .int (-1), .int (-(nf t))])), (k4, .inl (cI, 501, .inl (fun j => nI (Kd j)))), (k5, .inl (cI, 501, .inl sf)), (k6, .inl (cI, 501, .inl nf))] := hD
          refine lv_aload_n hx hb dX6_takeVal_99 rfl (lv_at hl 1 rfl) ?_
          refine lv_bipush (v := 16) hx hb dX6_takeVal_100 (by decide) ?_
          refine gx_goi (wc := [(h0, .inr (6, [v0, .int pv, .int fv, v3, .ref k4, .ref k5, .ref k6, v7, .int (nI t), v9, .int (-1), .int (-(nf t))])), (k4, .inl (cI, 501, .inl (fun j => nI (Kd j)))), (k5, .inl (cI, 501, .inl sf))]) (wr := [(k6, .inl (cI, 501, .inl nf))]) (va_runV (As := [.int 16]) (rest := []) ⟨hx, hb, hml, hown, hts⟩ (x_take l D cI cB cZ h0 k4 k5 (v0) (v3) (.ref k6) (v7) (v9) (.int (-1)) (.int (-(nf t))) pv fv Kd sf t 16 (by omega) (hR.1 _ (by omega)) (by first | decide | omega | exact hR.1 _ (by omega)) _) (cwV 1 hts gP_x_takeVal1__x_take rfl rfl rfl (by decide +kernel) ⟨Nat.le_of_ble_eq_true rfl, Nat.le_of_ble_eq_true rfl⟩) (gx_preV (ci := 6) (q0 := 0) hK gN.nil hP hD [0, 1, 2] rfl rfl rfl rfl) rfl rfl hl.1 rfl (lv_room (Nat.le_of_ble_eq_true rfl)) dX6_takeVal_102 ⟨Nat.le_of_ble_eq_true rfl, Nat.le_of_ble_eq_true rfl⟩) hP hD hS hA [0, 1, 2] [3] rfl rfl rfl (by decide) (fun r1 w1 H locs hp hP hD hS => ?_)
          obtain ⟨e_39, e_40, e_41, e_42, hq_43, hx102_0, h9, rfl⟩ := hp
          have h9 := h9.symm
          subst h9
          have hq_43 : (e_39 = 0 ∧ e_42 = t ∧ ¬ e_41 = 0) ∨ (e_39 = 1 ∧ e_42 = t + 1 ∧ t < 500 ∧ nI (Kd t) = nI 16 ∧ e_41 = fv) := hq_43
          have hx102_0 : rOut (rTake Kd 16 t) e_42 (sf e_42) e_39 fv pv e_41 e_40 := hx102_0
          have htk := hq_43
          have htt := gTk0 htk (by omega)
          have hP := hP.sub (ws' := [(h0, .inr (6, [v0, .int e_40, .int e_41, v3, .ref k4, .ref k5, .ref k6, v7, .int (nI e_42), v9, .int (-1), .int (-(nf t))])), (k4, .inl (cI, 501, .inl (fun j => nI (Kd j)))), (k5, .inl (cI, 501, .inl sf)), (k6, .inl (cI, 501, .inl nf))]) [1, 2, 3, 0] rfl
          have hD := hD.sub (ws' := [(h0, .inr (6, [v0, .int e_40, .int e_41, v3, .ref k4, .ref k5, .ref k6, v7, .int (nI e_42), v9, .int (-1), .int (-(nf t))])), (k4, .inl (cI, 501, .inl (fun j => nI (Kd j)))), (k5, .inl (cI, 501, .inl sf)), (k6, .inl (cI, 501, .inl nf))]) [1, 2, 3, 0] (by decide) rfl
          exact gx_zret (w' := [(h0, .inr (6, [v0, .int e_40, .int e_41, v3, .ref k4, .ref k5, .ref k6, v7, .int (nI e_42), v9, .int (-1), .int (-(nf t))])), (k4, .inl (cI, 501, .inl (fun j => nI (Kd j)))), (k5, .inl (cI, 501, .inl sf)), (k6, .inl (cI, 501, .inl nf))]) hx hb hr hlk hK hP hD hS (Nat.le_of_ble_eq_true rfl) (Nat.le_of_ble_eq_true rfl) dX6_takeVal_105 (gy_z01 (gTk1 htk)) ⟨e_39, e_40, e_41, e_42, (-(nf t)), (-1), (by first | exact gTk2 htk (Or.inl rfl) | exact gTk4 (gTk2 htk (Or.inl rfl)) (gTkY htk0 c_32).2.2.2 htt0.1 | exact gTk4 (gTk2 htk (Or.inl rfl)) (gTkY htk0 c_33).2.2.2 htt0.1), (by omega), (by first | (exfalso; omega) | exact rOut_e (rVal_n (by omega)) (rOut_e (rInt_n (by omega)) hx102_0) | exact rOut_e (rVal_n (by omega)) (rOut_e (rInt_m (by omega)) (rOut_seq hx54_0 c_32 hx102_0))), (fun _ => ⟨by first | (exfalso; omega) | exact vRg_n (by omega), by first | (exfalso; omega) | exact (vInt_n (by omega)).trans (vVl_n (by omega)) | exact (vInt_m (by omega) (gTkY htk0 c_32).1).trans (vVl_n (by omega))⟩), rfl, rfl⟩
      · refine lv_aload_n hx hb dX6_takeVal_51 rfl (lv_at hl 1 rfl) ?_
        refine lv_bipush (v := 20) hx hb dX6_takeVal_52 (by decide) ?_
        refine gx_goi (wc := [(h0, .inr (6, [v0, .int pv, .int fv, v3, .ref k4, .ref k5, .ref k6, v7, .int (nI t), v9, .int vr, .int vl])), (k4, .inl (cI, 501, .inl (fun j => nI (Kd j)))), (k5, .inl (cI, 501, .inl sf))]) (wr := [(k6, .inl (cI, 501, .inl nf))]) (va_runV (As := [.int 20]) (rest := []) ⟨hx, hb, hml, hown, hts⟩ (x_take l D cI cB cZ h0 k4 k5 (v0) (v3) (.ref k6) (v7) (v9) (.int vr) (.int vl) pv fv Kd sf t 20 (by omega) (hR.1 _ (by omega)) (by first | decide | omega | exact hR.1 _ (by omega)) _) (cwV 1 hts gP_x_takeVal1__x_take rfl rfl rfl (by decide +kernel) ⟨Nat.le_of_ble_eq_true rfl, Nat.le_of_ble_eq_true rfl⟩) (gx_preV (ci := 6) (q0 := 0) hK gN.nil hP hD [0, 1, 2] rfl rfl rfl rfl) rfl rfl hl.1 rfl (lv_room (Nat.le_of_ble_eq_true rfl)) dX6_takeVal_54 ⟨Nat.le_of_ble_eq_true rfl, Nat.le_of_ble_eq_true rfl⟩) hP hD hS hA [0, 1, 2] [3] rfl rfl rfl (by decide) (fun r1 w1 H locs hp hP hD hS => ?_)
        obtain ⟨e_44, e_45, e_46, e_47, hq_48, hx54_0, h9, rfl⟩ := hp
        have h9 := h9.symm
        subst h9
        have hq_48 : (e_44 = 0 ∧ e_47 = t ∧ ¬ e_46 = 0) ∨ (e_44 = 1 ∧ e_47 = t + 1 ∧ t < 500 ∧ nI (Kd t) = nI 20 ∧ e_46 = fv) := hq_48
        have hx54_0 : rOut (rTake Kd 20 t) e_47 (sf e_47) e_44 fv pv e_46 e_45 := hx54_0
        have htk0 := hq_48
        have htt0 := gTk0 htk0 (by omega)
        refine lv_if_ne (tgt := 62) hx hb dX6_takeVal_57 (by decide) (fun c_49 => ?_) (fun c_49 => ?_)
        · refine lv_aload_n hx hb dX6_takeVal_62 rfl (lv_at hl 1 rfl) ?_
          refine lv_iconst (v := (-1)) hx hb dX6_takeVal_63 (by decide) ?_
          refine va_put (D := D) (ci := 6) (v := .int (-1)) (ty := .int) (C := RX6) (T := TX6) (N := 12) hx hb hts (fun _ h => List.mem_cons_of_mem _ (List.mem_append_left _ (List.mem_append_right _ h))) tyX6 tyX6_ok nmX6 hown hK hP hD hS 1 rfl rfl 10 (by decide) (hts (.fieldLink RX6 122 "LitmusHall$Reader" "valueReg" "I") (by decide +kernel)) (fun _ h9 => h9) rfl (by decide +kernel) rfl rfl (Nat.le_of_ble_eq_true rfl) dX6_takeVal_64 (fun H locs hP hD hS => ?_)
          have hP : va_P D vwCl [(k6, .inl (cI, 501, .inl nf)), (h0, .inr (6, [v0, .int e_45, .int e_46, v3, .ref k4, .ref k5, .ref k6, v7, .int (nI e_47), v9, .int (-1), .int vl])), (k4, .inl (cI, 501, .inl (fun j => nI (Kd j)))), (k5, .inl (cI, 501, .inl sf))] H := hP
          have hD : va_D A [(k6, .inl (cI, 501, .inl nf)), (h0, .inr (6, [v0, .int e_45, .int e_46, v3, .ref k4, .ref k5, .ref k6, v7, .int (nI e_47), v9, .int (-1), .int vl])), (k4, .inl (cI, 501, .inl (fun j => nI (Kd j)))), (k5, .inl (cI, 501, .inl sf))] := hD
          refine lv_aload_n hx hb dX6_takeVal_67 rfl (lv_at hl 1 rfl) ?_
          refine lv_iload_n hx hb dX6_takeVal_68 rfl (lv_at hl 0 rfl) ?_
          refine lv_bipush (v := 20) hx hb dX6_takeVal_69 (by decide) ?_
          refine gy_ne (a := (Kd t)) (b := 20) (tgt := 87) hx hb (by omega) (by omega) dX6_takeVal_71 (by decide) (fun c_50 => ?_) (fun c_50 => ?_)
          · refine lv_aload_n hx hb dX6_takeVal_87 rfl (lv_at hl 1 rfl) ?_
            refine va_get (D := D) (ci := 6) (v := .ref k6) (C := RX6) (T := TX6) (N := 12) hx hb hts (fun _ h => List.mem_cons_of_mem _ (List.mem_append_left _ (List.mem_append_right _ h))) hown hK hP 1 rfl rfl 6 (by decide) (hts (.fieldLink RX6 29 "LitmusHall$Reader" "numbers" "[I") (by decide +kernel)) (fun _ h9 => h9) rfl dX6_takeVal_88 ?_
            refine lv_aload_n hx hb dX6_takeVal_91 rfl (lv_at hl 1 rfl) ?_
            refine va_get (D := D) (ci := 6) (v := .int (nI e_47)) (C := RX6) (T := TX6) (N := 12) hx hb hts (fun _ h => List.mem_cons_of_mem _ (List.mem_append_left _ (List.mem_append_right _ h))) hown hK hP 1 rfl rfl 8 (by decide) (hts (.fieldLink RX6 45 "LitmusHall$Reader" "at" "I") (by decide +kernel)) (fun _ h9 => h9) rfl dX6_takeVal_92 ?_
            refine gy_ild (i := e_47) hx hb hK hP 0 rfl (by omega) (by omega) dX6_takeVal_95 ?_
            refine va_put (D := D) (ci := 6) (v := .int (nf e_47)) (ty := .int) (C := RX6) (T := TX6) (N := 12) hx hb hts (fun _ h => List.mem_cons_of_mem _ (List.mem_append_left _ (List.mem_append_right _ h))) tyX6 tyX6_ok nmX6 hown hK hP hD hS 1 rfl rfl 11 (by decide) (hts (.fieldLink RX6 108 "LitmusHall$Reader" "value" "I") (by decide +kernel)) (fun _ h9 => h9) rfl (by decide +kernel) rfl rfl (Nat.le_of_ble_eq_true rfl) dX6_takeVal_96 (fun H locs hP hD hS => ?_)
            have hP : va_P D vwCl [(k6, .inl (cI, 501, .inl nf)), (h0, .inr (6, [v0, .int e_45, .int e_46, v3, .ref k4, .ref k5, .ref k6, v7, .int (nI e_47), v9, .int (-1), .int (nf e_47)])), (k4, .inl (cI, 501, .inl (fun j => nI (Kd j)))), (k5, .inl (cI, 501, .inl sf))] H := hP
            have hD : va_D A [(k6, .inl (cI, 501, .inl nf)), (h0, .inr (6, [v0, .int e_45, .int e_46, v3, .ref k4, .ref k5, .ref k6, v7, .int (nI e_47), v9, .int (-1), .int (nf e_47)])), (k4, .inl (cI, 501, .inl (fun j => nI (Kd j)))), (k5, .inl (cI, 501, .inl sf))] := hD
            refine lv_aload_n hx hb dX6_takeVal_99 rfl (lv_at hl 1 rfl) ?_
            refine lv_bipush (v := 16) hx hb dX6_takeVal_100 (by decide) ?_
            refine gx_goi (wc := [(h0, .inr (6, [v0, .int e_45, .int e_46, v3, .ref k4, .ref k5, .ref k6, v7, .int (nI e_47), v9, .int (-1), .int (nf e_47)])), (k4, .inl (cI, 501, .inl (fun j => nI (Kd j)))), (k5, .inl (cI, 501, .inl sf))]) (wr := [(k6, .inl (cI, 501, .inl nf))]) (va_runV (As := [.int 16]) (rest := []) ⟨hx, hb, hml, hown, hts⟩ (x_take l D cI cB cZ h0 k4 k5 (v0) (v3) (.ref k6) (v7) (v9) (.int (-1)) (.int (nf e_47)) e_45 e_46 Kd sf e_47 16 (by omega) (hR.1 _ (by omega)) (by first | decide | omega | exact hR.1 _ (by omega)) _) (cwV 1 hts gP_x_takeVal1__x_take rfl rfl rfl (by decide +kernel) ⟨Nat.le_of_ble_eq_true rfl, Nat.le_of_ble_eq_true rfl⟩) (gx_preV (ci := 6) (q0 := 0) hK gN.nil hP hD [1, 2, 3] rfl rfl rfl rfl) rfl rfl hl.1 rfl (lv_room (Nat.le_of_ble_eq_true rfl)) dX6_takeVal_102 ⟨Nat.le_of_ble_eq_true rfl, Nat.le_of_ble_eq_true rfl⟩) hP hD hS hA [1, 2, 3] [0] rfl rfl rfl (by decide) (fun r1 w1 H locs hp hP hD hS => ?_)
            obtain ⟨e_51, e_52, e_53, e_54, hq_55, hx102_0, h9, rfl⟩ := hp
            have h9 := h9.symm
            subst h9
            have hq_55 : (e_51 = 0 ∧ e_54 = e_47 ∧ ¬ e_53 = 0) ∨ (e_51 = 1 ∧ e_54 = e_47 + 1 ∧ e_47 < 500 ∧ nI (Kd e_47) = nI 16 ∧ e_53 = e_46) := hq_55
            have hx102_0 : rOut (rTake Kd 16 e_47) e_54 (sf e_54) e_51 e_46 e_45 e_53 e_52 := hx102_0
            have htk := hq_55
            have htt := gTk0 htk (by omega)
            have hP := hP.sub (ws' := [(h0, .inr (6, [v0, .int e_52, .int e_53, v3, .ref k4, .ref k5, .ref k6, v7, .int (nI e_54), v9, .int (-1), .int (nf e_47)])), (k4, .inl (cI, 501, .inl (fun j => nI (Kd j)))), (k5, .inl (cI, 501, .inl sf)), (k6, .inl (cI, 501, .inl nf))]) [1, 2, 3, 0] rfl
            have hD := hD.sub (ws' := [(h0, .inr (6, [v0, .int e_52, .int e_53, v3, .ref k4, .ref k5, .ref k6, v7, .int (nI e_54), v9, .int (-1), .int (nf e_47)])), (k4, .inl (cI, 501, .inl (fun j => nI (Kd j)))), (k5, .inl (cI, 501, .inl sf)), (k6, .inl (cI, 501, .inl nf))]) [1, 2, 3, 0] (by decide) rfl
            exact gx_zret (w' := [(h0, .inr (6, [v0, .int e_52, .int e_53, v3, .ref k4, .ref k5, .ref k6, v7, .int (nI e_54), v9, .int (-1), .int (nf e_47)])), (k4, .inl (cI, 501, .inl (fun j => nI (Kd j)))), (k5, .inl (cI, 501, .inl sf)), (k6, .inl (cI, 501, .inl nf))]) hx hb hr hlk hK hP hD hS (Nat.le_of_ble_eq_true rfl) (Nat.le_of_ble_eq_true rfl) dX6_takeVal_105 (gy_z01 (gTk1 htk)) ⟨e_51, e_52, e_53, e_54, (nf e_47), (-1), (by first | exact gTk2 htk (Or.inl rfl) | exact gTk4 (gTk2 htk (Or.inl rfl)) (gTkY htk0 c_49).2.2.2 htt0.1 | exact gTk4 (gTk2 htk (Or.inl rfl)) (gTkY htk0 c_50).2.2.2 htt0.1), (by omega), (by first | (exfalso; omega) | exact rOut_e (rVal_n (by omega)) (rOut_e (rInt_n (by omega)) hx102_0) | exact rOut_e (rVal_n (by omega)) (rOut_e (rInt_m (by omega)) (rOut_seq hx54_0 c_49 hx102_0))), (fun _ => ⟨by first | (exfalso; omega) | exact vRg_n (by omega), by first | (exfalso; omega) | exact (vInt_n (by omega)).trans (vVl_n (by omega)) | exact (vInt_m (by omega) (gTkY htk0 c_49).1).trans (vVl_n (by omega))⟩), rfl, rfl⟩
          · refine lv_aload_n hx hb dX6_takeVal_74 rfl (lv_at hl 1 rfl) ?_
            refine va_get (D := D) (ci := 6) (v := .ref k6) (C := RX6) (T := TX6) (N := 12) hx hb hts (fun _ h => List.mem_cons_of_mem _ (List.mem_append_left _ (List.mem_append_right _ h))) hown hK hP 1 rfl rfl 6 (by decide) (hts (.fieldLink RX6 29 "LitmusHall$Reader" "numbers" "[I") (by decide +kernel)) (fun _ h9 => h9) rfl dX6_takeVal_75 ?_
            refine lv_aload_n hx hb dX6_takeVal_78 rfl (lv_at hl 1 rfl) ?_
            refine va_get (D := D) (ci := 6) (v := .int (nI e_47)) (C := RX6) (T := TX6) (N := 12) hx hb hts (fun _ h => List.mem_cons_of_mem _ (List.mem_append_left _ (List.mem_append_right _ h))) hown hK hP 1 rfl rfl 8 (by decide) (hts (.fieldLink RX6 45 "LitmusHall$Reader" "at" "I") (by decide +kernel)) (fun _ h9 => h9) rfl dX6_takeVal_79 ?_
            refine gy_ild (i := e_47) hx hb hK hP 0 rfl (by omega) (by omega) dX6_takeVal_82 ?_
            refine lv_ineg hx hb dX6_takeVal_83 ?_
            refine lv_goto (tgt := 96) hx hb dX6_takeVal_84 (by decide) ?_
            refine va_put (D := D) (ci := 6) (v := .int (-(nf e_47))) (ty := .int) (C := RX6) (T := TX6) (N := 12) hx hb hts (fun _ h => List.mem_cons_of_mem _ (List.mem_append_left _ (List.mem_append_right _ h))) tyX6 tyX6_ok nmX6 hown hK hP hD hS 1 rfl rfl 11 (by decide) (hts (.fieldLink RX6 108 "LitmusHall$Reader" "value" "I") (by decide +kernel)) (fun _ h9 => h9) rfl (by decide +kernel) rfl rfl (Nat.le_of_ble_eq_true rfl) dX6_takeVal_96 (fun H locs hP hD hS => ?_)
            have hP : va_P D vwCl [(k6, .inl (cI, 501, .inl nf)), (h0, .inr (6, [v0, .int e_45, .int e_46, v3, .ref k4, .ref k5, .ref k6, v7, .int (nI e_47), v9, .int (-1), .int (-(nf e_47))])), (k4, .inl (cI, 501, .inl (fun j => nI (Kd j)))), (k5, .inl (cI, 501, .inl sf))] H := hP
            have hD : va_D A [(k6, .inl (cI, 501, .inl nf)), (h0, .inr (6, [v0, .int e_45, .int e_46, v3, .ref k4, .ref k5, .ref k6, v7, .int (nI e_47), v9, .int (-1), .int (-(nf e_47))])), (k4, .inl (cI, 501, .inl (fun j => nI (Kd j)))), (k5, .inl (cI, 501, .inl sf))] := hD
            refine lv_aload_n hx hb dX6_takeVal_99 rfl (lv_at hl 1 rfl) ?_
            refine lv_bipush (v := 16) hx hb dX6_takeVal_100 (by decide) ?_
            refine gx_goi (wc := [(h0, .inr (6, [v0, .int e_45, .int e_46, v3, .ref k4, .ref k5, .ref k6, v7, .int (nI e_47), v9, .int (-1), .int (-(nf e_47))])), (k4, .inl (cI, 501, .inl (fun j => nI (Kd j)))), (k5, .inl (cI, 501, .inl sf))]) (wr := [(k6, .inl (cI, 501, .inl nf))]) (va_runV (As := [.int 16]) (rest := []) ⟨hx, hb, hml, hown, hts⟩ (x_take l D cI cB cZ h0 k4 k5 (v0) (v3) (.ref k6) (v7) (v9) (.int (-1)) (.int (-(nf e_47))) e_45 e_46 Kd sf e_47 16 (by omega) (hR.1 _ (by omega)) (by first | decide | omega | exact hR.1 _ (by omega)) _) (cwV 1 hts gP_x_takeVal1__x_take rfl rfl rfl (by decide +kernel) ⟨Nat.le_of_ble_eq_true rfl, Nat.le_of_ble_eq_true rfl⟩) (gx_preV (ci := 6) (q0 := 0) hK gN.nil hP hD [1, 2, 3] rfl rfl rfl rfl) rfl rfl hl.1 rfl (lv_room (Nat.le_of_ble_eq_true rfl)) dX6_takeVal_102 ⟨Nat.le_of_ble_eq_true rfl, Nat.le_of_ble_eq_true rfl⟩) hP hD hS hA [1, 2, 3] [0] rfl rfl rfl (by decide) (fun r1 w1 H locs hp hP hD hS => ?_)
            obtain ⟨e_56, e_57, e_58, e_59, hq_60, hx102_0, h9, rfl⟩ := hp
            have h9 := h9.symm
            subst h9
            have hq_60 : (e_56 = 0 ∧ e_59 = e_47 ∧ ¬ e_58 = 0) ∨ (e_56 = 1 ∧ e_59 = e_47 + 1 ∧ e_47 < 500 ∧ nI (Kd e_47) = nI 16 ∧ e_58 = e_46) := hq_60
            have hx102_0 : rOut (rTake Kd 16 e_47) e_59 (sf e_59) e_56 e_46 e_45 e_58 e_57 := hx102_0
            have htk := hq_60
            have htt := gTk0 htk (by omega)
            have hP := hP.sub (ws' := [(h0, .inr (6, [v0, .int e_57, .int e_58, v3, .ref k4, .ref k5, .ref k6, v7, .int (nI e_59), v9, .int (-1), .int (-(nf e_47))])), (k4, .inl (cI, 501, .inl (fun j => nI (Kd j)))), (k5, .inl (cI, 501, .inl sf)), (k6, .inl (cI, 501, .inl nf))]) [1, 2, 3, 0] rfl
            have hD := hD.sub (ws' := [(h0, .inr (6, [v0, .int e_57, .int e_58, v3, .ref k4, .ref k5, .ref k6, v7, .int (nI e_59), v9, .int (-1), .int (-(nf e_47))])), (k4, .inl (cI, 501, .inl (fun j => nI (Kd j)))), (k5, .inl (cI, 501, .inl sf)), (k6, .inl (cI, 501, .inl nf))]) [1, 2, 3, 0] (by decide) rfl
            exact gx_zret (w' := [(h0, .inr (6, [v0, .int e_57, .int e_58, v3, .ref k4, .ref k5, .ref k6, v7, .int (nI e_59), v9, .int (-1), .int (-(nf e_47))])), (k4, .inl (cI, 501, .inl (fun j => nI (Kd j)))), (k5, .inl (cI, 501, .inl sf)), (k6, .inl (cI, 501, .inl nf))]) hx hb hr hlk hK hP hD hS (Nat.le_of_ble_eq_true rfl) (Nat.le_of_ble_eq_true rfl) dX6_takeVal_105 (gy_z01 (gTk1 htk)) ⟨e_56, e_57, e_58, e_59, (-(nf e_47)), (-1), (by first | exact gTk2 htk (Or.inl rfl) | exact gTk4 (gTk2 htk (Or.inl rfl)) (gTkY htk0 c_49).2.2.2 htt0.1 | exact gTk4 (gTk2 htk (Or.inl rfl)) (gTkY htk0 c_50).2.2.2 htt0.1), (by omega), (by first | (exfalso; omega) | exact rOut_e (rVal_n (by omega)) (rOut_e (rInt_n (by omega)) hx102_0) | exact rOut_e (rVal_n (by omega)) (rOut_e (rInt_m (by omega)) (rOut_seq hx54_0 c_49 hx102_0))), (fun _ => ⟨by first | (exfalso; omega) | exact vRg_n (by omega), by first | (exfalso; omega) | exact (vInt_n (by omega)).trans (vVl_n (by omega)) | exact (vInt_m (by omega) (gTkY htk0 c_49).1).trans (vVl_n (by omega))⟩), rfl, rfl⟩
        · refine lv_iconst (v := 0) hx hb dX6_takeVal_60 (by decide) ?_
          have hP := hP.sub (ws' := [(h0, .inr (6, [v0, .int e_45, .int e_46, v3, .ref k4, .ref k5, .ref k6, v7, .int (nI e_47), v9, .int vr, .int vl])), (k4, .inl (cI, 501, .inl (fun j => nI (Kd j)))), (k5, .inl (cI, 501, .inl sf)), (k6, .inl (cI, 501, .inl nf))]) [1, 2, 3, 0] rfl
          have hD := hD.sub (ws' := [(h0, .inr (6, [v0, .int e_45, .int e_46, v3, .ref k4, .ref k5, .ref k6, v7, .int (nI e_47), v9, .int vr, .int vl])), (k4, .inl (cI, 501, .inl (fun j => nI (Kd j)))), (k5, .inl (cI, 501, .inl sf)), (k6, .inl (cI, 501, .inl nf))]) [1, 2, 3, 0] (by decide) rfl
          exact gx_zret (w' := [(h0, .inr (6, [v0, .int e_45, .int e_46, v3, .ref k4, .ref k5, .ref k6, v7, .int (nI e_47), v9, .int vr, .int vl])), (k4, .inl (cI, 501, .inl (fun j => nI (Kd j)))), (k5, .inl (cI, 501, .inl sf)), (k6, .inl (cI, 501, .inl nf))]) hx hb hr hlk hK hP hD hS (Nat.le_of_ble_eq_true rfl) (Nat.le_of_ble_eq_true rfl) dX6_takeVal_61 rfl ⟨0, e_45, e_46, e_47, vl, vr, (Or.inl ⟨rfl, by rcases htk0 with h | h; exact h.2.2; exact absurd (h.1.symm.trans c_49) (by decide)⟩), htt0, (rOut_e (rVal_n (by omega)) (rOut_e (rInt_m (by omega)) (rOut_stp hx54_0 c_49))), (fun h => absurd rfl h), rfl, rfl⟩
    · refine lv_aload_n hx hb dX6_takeVal_26 rfl (lv_at hl 1 rfl) ?_
      refine lv_iload_n hx hb dX6_takeVal_27 rfl (lv_at hl 0 rfl) ?_
      refine lv_bipush (v := 13) hx hb dX6_takeVal_28 (by decide) ?_
      refine lv_isub hx hb dX6_takeVal_30 ?_
      refine gx_top (y := nI ((Kd t) - 13)) (pk_sub (a := Kd t) (b := 13) (by omega)) ?_
      refine va_put (D := D) (ci := 6) (v := .int (nI ((Kd t) - 13))) (ty := .int) (C := RX6) (T := TX6) (N := 12) hx hb hts (fun _ h => List.mem_cons_of_mem _ (List.mem_append_left _ (List.mem_append_right _ h))) tyX6 tyX6_ok nmX6 hown hK hP hD hS 0 rfl rfl 10 (by decide) (hts (.fieldLink RX6 122 "LitmusHall$Reader" "valueReg" "I") (by decide +kernel)) (fun _ h9 => h9) rfl (by decide +kernel) rfl rfl (Nat.le_of_ble_eq_true rfl) dX6_takeVal_31 (fun H locs hP hD hS => ?_)
      have hP : va_P D vwCl [(h0, .inr (6, [v0, .int pv, .int fv, v3, .ref k4, .ref k5, .ref k6, v7, .int (nI t), v9, .int (nI ((Kd t) - 13)), .int vl])), (k4, .inl (cI, 501, .inl (fun j => nI (Kd j)))), (k5, .inl (cI, 501, .inl sf)), (k6, .inl (cI, 501, .inl nf))] H := hP
      have hD : va_D A [(h0, .inr (6, [v0, .int pv, .int fv, v3, .ref k4, .ref k5, .ref k6, v7, .int (nI t), v9, .int (nI ((Kd t) - 13)), .int vl])), (k4, .inl (cI, 501, .inl (fun j => nI (Kd j)))), (k5, .inl (cI, 501, .inl sf)), (k6, .inl (cI, 501, .inl nf))] := hD
      refine lv_aload_n hx hb dX6_takeVal_34 rfl (lv_at hl 1 rfl) ?_
      refine lv_iconst (v := 0) hx hb dX6_takeVal_35 (by decide) ?_
      refine va_put (D := D) (ci := 6) (v := .int 0) (ty := .int) (C := RX6) (T := TX6) (N := 12) hx hb hts (fun _ h => List.mem_cons_of_mem _ (List.mem_append_left _ (List.mem_append_right _ h))) tyX6 tyX6_ok nmX6 hown hK hP hD hS 0 rfl rfl 11 (by decide) (hts (.fieldLink RX6 108 "LitmusHall$Reader" "value" "I") (by decide +kernel)) (fun _ h9 => h9) rfl (by decide +kernel) rfl rfl (Nat.le_of_ble_eq_true rfl) dX6_takeVal_36 (fun H locs hP hD hS => ?_)
      have hP : va_P D vwCl [(h0, .inr (6, [v0, .int pv, .int fv, v3, .ref k4, .ref k5, .ref k6, v7, .int (nI t), v9, .int (nI ((Kd t) - 13)), .int 0])), (k4, .inl (cI, 501, .inl (fun j => nI (Kd j)))), (k5, .inl (cI, 501, .inl sf)), (k6, .inl (cI, 501, .inl nf))] H := hP
      have hD : va_D A [(h0, .inr (6, [v0, .int pv, .int fv, v3, .ref k4, .ref k5, .ref k6, v7, .int (nI t), v9, .int (nI ((Kd t) - 13)), .int 0])), (k4, .inl (cI, 501, .inl (fun j => nI (Kd j)))), (k5, .inl (cI, 501, .inl sf)), (k6, .inl (cI, 501, .inl nf))] := hD
      refine lv_aload_n hx hb dX6_takeVal_39 rfl (lv_at hl 1 rfl) ?_
      refine lv_iload_n hx hb dX6_takeVal_40 rfl (lv_at hl 0 rfl) ?_
      refine gx_goi (wc := [(h0, .inr (6, [v0, .int pv, .int fv, v3, .ref k4, .ref k5, .ref k6, v7, .int (nI t), v9, .int (nI ((Kd t) - 13)), .int 0])), (k4, .inl (cI, 501, .inl (fun j => nI (Kd j)))), (k5, .inl (cI, 501, .inl sf))]) (wr := [(k6, .inl (cI, 501, .inl nf))]) (va_runV (As := [.int (nI (Kd t))]) (rest := []) ⟨hx, hb, hml, hown, hts⟩ (x_take l D cI cB cZ h0 k4 k5 (v0) (v3) (.ref k6) (v7) (v9) (.int (nI ((Kd t) - 13))) (.int 0) pv fv Kd sf t (Kd t) (by omega) (hR.1 _ (by omega)) (by first | decide | omega | exact hR.1 _ (by omega)) _) (cwV 1 hts gP_x_takeVal1__x_take rfl rfl rfl (by decide +kernel) ⟨Nat.le_of_ble_eq_true rfl, Nat.le_of_ble_eq_true rfl⟩) (gx_preV (ci := 6) (q0 := 0) hK gN.nil hP hD [0, 1, 2] rfl rfl rfl rfl) rfl rfl hl.1 rfl (lv_room (Nat.le_of_ble_eq_true rfl)) dX6_takeVal_41 ⟨Nat.le_of_ble_eq_true rfl, Nat.le_of_ble_eq_true rfl⟩) hP hD hS hA [0, 1, 2] [3] rfl rfl rfl (by decide) (fun r1 w1 H locs hp hP hD hS => ?_)
      obtain ⟨e_61, e_62, e_63, e_64, hq_65, hx41_0, h9, rfl⟩ := hp
      have h9 := h9.symm
      subst h9
      have hq_65 : (e_61 = 0 ∧ e_64 = t ∧ ¬ e_63 = 0) ∨ (e_61 = 1 ∧ e_64 = t + 1 ∧ t < 500 ∧ nI (Kd t) = nI (Kd t) ∧ e_63 = fv) := hq_65
      have hx41_0 : rOut (rTake Kd (Kd t) t) e_64 (sf e_64) e_61 fv pv e_63 e_62 := hx41_0
      have htk := hq_65
      have htt := gTk0 htk (by omega)
      have hP := hP.sub (ws' := [(h0, .inr (6, [v0, .int e_62, .int e_63, v3, .ref k4, .ref k5, .ref k6, v7, .int (nI e_64), v9, .int (nI ((Kd t) - 13)), .int 0])), (k4, .inl (cI, 501, .inl (fun j => nI (Kd j)))), (k5, .inl (cI, 501, .inl sf)), (k6, .inl (cI, 501, .inl nf))]) [1, 2, 3, 0] rfl
      have hD := hD.sub (ws' := [(h0, .inr (6, [v0, .int e_62, .int e_63, v3, .ref k4, .ref k5, .ref k6, v7, .int (nI e_64), v9, .int (nI ((Kd t) - 13)), .int 0])), (k4, .inl (cI, 501, .inl (fun j => nI (Kd j)))), (k5, .inl (cI, 501, .inl sf)), (k6, .inl (cI, 501, .inl nf))]) [1, 2, 3, 0] (by decide) rfl
      exact gx_zret (w' := [(h0, .inr (6, [v0, .int e_62, .int e_63, v3, .ref k4, .ref k5, .ref k6, v7, .int (nI e_64), v9, .int (nI ((Kd t) - 13)), .int 0])), (k4, .inl (cI, 501, .inl (fun j => nI (Kd j)))), (k5, .inl (cI, 501, .inl sf)), (k6, .inl (cI, 501, .inl nf))]) hx hb hr hlk hK hP hD hS (Nat.le_of_ble_eq_true rfl) (Nat.le_of_ble_eq_true rfl) dX6_takeVal_44 (gy_z01 (gTk1 htk)) ⟨e_61, e_62, e_63, e_64, 0, (nI ((Kd t) - 13)), (gTk2 htk (Or.inr ⟨_, by omega, rfl⟩)), htt, (rOut_e (rVal_y (by omega)) hx41_0), (fun _ => ⟨vRg_y (by omega), vVl_y (by omega)⟩), rfl, rfl⟩
def wsP_x_takeSkip : List Cond := .code yX6_takeSkip cX6_takeSkip 1 (some .boolean) :: (([.methodLink RX6 102 yX6_take, .instanceMethod yX6_take, .selects RX6 yX6_take yX6_take, .initialized RX6, .fieldLink RX6 29 "LitmusHall$Reader" "numbers" "[I", .fieldLink RX6 45 "LitmusHall$Reader" "at" "I", .fieldLink RX6 108 "LitmusHall$Reader" "value" "I"] ++ wsX60) ++ (wsP_x_take ++ []))
theorem gW_x_takeSkip : wsP_x_takeSkip.all goodWord = true := by unfold wsP_x_takeSkip; exact gw_mk (by decide +kernel) (gw_app gW_x_take rfl)
set_option maxRecDepth 20000 in
theorem gP_x_takeSkip__x_take : GoodIn wsP_x_takeSkip (wsV RX6 102 RX6 yX6_take wsP_x_take) := gw_in (pre := [.methodLink RX6 102 yX6_take, .instanceMethod yX6_take, .selects RX6 yX6_take yX6_take, .initialized RX6]) (by decide +kernel) (fun _ h => List.mem_cons_of_mem _ (List.mem_append_right _ (List.mem_append_left _ h))) gW_x_take
set_option maxHeartbeats 4000000 in
set_option maxRecDepth 100000 in
theorem x_takeSkip (l : Launch) (D : va_G) (cI cB cZ : ClassId) (h0 : Nat) (k4 : Nat) (k5 : Nat) (k6 : Nat) (v0 : Value) (v3 : Value) (v7 : Value) (v9 : Value) (v10 : Value) (pv : Int32) (fv : Int32) (Kd : Nat → Nat) (sf : Nat → Int32) (nf : Nat → Int32) (t : Nat) (vl : Int32) (ht : t ≤ 500) (hR : gRdI Kd nf sf) : gMi l yX6_takeSkip wsP_x_takeSkip ({ frames := 2, cells := 0, slots := 0, locals := 42 }) D cI cB cZ [] [.ref h0] [(h0, .inr (6, [v0, .int pv, .int fv, v3, .ref k4, .ref k5, .ref k6, v7, .int (nI t), v9, v10, .int vl])), (k4, .inl (cI, 501, .inl (fun j => nI (Kd j)))), (k5, .inl (cI, 501, .inl sf)), (k6, .inl (cI, 501, .inl nf))] (fun r9 w9 => ∃ z : Int32, ∃ pv9 : Int32, ∃ fv9 : Int32, ∃ t9 : Nat, ∃ vl9 : Int32, ((z = 0 ∧ ¬ fv9 = 0) ∨ (z = 1 ∧ fv9 = fv ∧ t < t9 ∧ (∃ x, x ≤ 999 ∧ vl9 = nI x))) ∧ (t ≤ t9 ∧ t9 ≤ 500) ∧ (rOut (rSkp Kd t) t9 (sf t9) z fv pv fv9 pv9) ∧ (¬ z = 0 → vl9 = nf (t + 1)) ∧ r9 = z ∧ w9 = [(h0, .inr (6, [v0, .int pv9, .int fv9, v3, .ref k4, .ref k5, .ref k6, v7, .int (nI t9), v9, v10, .int vl9])), (k4, .inl (cI, 501, .inl (fun j => nI (Kd j)))), (k5, .inl (cI, 501, .inl sf)), (k6, .inl (cI, 501, .inl nf))]) := by
  refine gMi.of (cc := cX6_takeSkip) (maxL := 1) (ret := (some .boolean)) (by decide) rfl (Nat.le_of_ble_eq_true rfl) (fun p e s m below meth c A ls hx hb hr hlk hml hts hown hin hA hP hK hD hS hN hl => ?_)
  have hown : s.vm.findClass RX6 = some m.cls := hown
  have hl : lv_has ls 1 [(0, .ref h0)] := hl
  refine lv_aload_n hx hb dX6_takeSkip_0 rfl (lv_at hl 0 rfl) ?_
  refine lv_bipush (v := 12) hx hb dX6_takeSkip_1 (by decide) ?_
  refine gx_goi (wc := [(h0, .inr (6, [v0, .int pv, .int fv, v3, .ref k4, .ref k5, .ref k6, v7, .int (nI t), v9, v10, .int vl])), (k4, .inl (cI, 501, .inl (fun j => nI (Kd j)))), (k5, .inl (cI, 501, .inl sf))]) (wr := [(k6, .inl (cI, 501, .inl nf))]) (va_runV (As := [.int 12]) (rest := []) ⟨hx, hb, hml, hown, hts⟩ (x_take l D cI cB cZ h0 k4 k5 (v0) (v3) (.ref k6) (v7) (v9) (v10) (.int vl) pv fv Kd sf t 12 (by omega) (hR.1 _ (by omega)) (by first | decide | omega | exact hR.1 _ (by omega)) _) (cwV 1 hts gP_x_takeSkip__x_take rfl rfl rfl (by decide +kernel) ⟨Nat.le_of_ble_eq_true rfl, Nat.le_of_ble_eq_true rfl⟩) (gx_preV (ci := 6) (q0 := 0) hK gN.nil hP hD [0, 1, 2] rfl rfl rfl rfl) rfl rfl hl.1 rfl (lv_room (Nat.le_of_ble_eq_true rfl)) dX6_takeSkip_3 ⟨Nat.le_of_ble_eq_true rfl, Nat.le_of_ble_eq_true rfl⟩) hP hD hS hA [0, 1, 2] [3] rfl rfl rfl (by decide) (fun r1 w1 H locs hp hP hD hS => ?_)
  obtain ⟨e_1, e_2, e_3, t1, hq_4, hx3_0, h9, rfl⟩ := hp
  have h9 := h9.symm
  subst h9
  have hq_4 : (e_1 = 0 ∧ t1 = t ∧ ¬ e_3 = 0) ∨ (e_1 = 1 ∧ t1 = t + 1 ∧ t < 500 ∧ nI (Kd t) = nI 12 ∧ e_3 = fv) := hq_4
  have hx3_0 : rOut (rTake Kd 12 t) t1 (sf t1) e_1 fv pv e_3 e_2 := hx3_0
  have htk0 := hq_4
  have htt0 := gTk0 htk0 (by omega)
  refine lv_if_ne (tgt := 11) hx hb dX6_takeSkip_6 (by decide) (fun c_5 => ?_) (fun c_5 => ?_)
  · have hty0 := gTkY htk0 c_5
    have hz3 := c_5
    refine lv_aload_n hx hb dX6_takeSkip_11 rfl (lv_at hl 0 rfl) ?_
    refine lv_aload_n hx hb dX6_takeSkip_12 rfl (lv_at hl 0 rfl) ?_
    refine va_get (D := D) (ci := 6) (v := .ref k6) (C := RX6) (T := TX6) (N := 12) hx hb hts (fun _ h => List.mem_cons_of_mem _ (List.mem_append_left _ (List.mem_append_right _ h))) hown hK hP 1 rfl rfl 6 (by decide) (hts (.fieldLink RX6 29 "LitmusHall$Reader" "numbers" "[I") (by decide +kernel)) (fun _ h9 => h9) rfl dX6_takeSkip_13 ?_
    refine lv_aload_n hx hb dX6_takeSkip_16 rfl (lv_at hl 0 rfl) ?_
    refine va_get (D := D) (ci := 6) (v := .int (nI t1)) (C := RX6) (T := TX6) (N := 12) hx hb hts (fun _ h => List.mem_cons_of_mem _ (List.mem_append_left _ (List.mem_append_right _ h))) hown hK hP 1 rfl rfl 8 (by decide) (hts (.fieldLink RX6 45 "LitmusHall$Reader" "at" "I") (by decide +kernel)) (fun _ h9 => h9) rfl dX6_takeSkip_17 ?_
    refine gy_ild (i := t1) hx hb hK hP 0 rfl (by omega) (by omega) dX6_takeSkip_20 ?_
    refine gx_gene (fun nv9 hnv9 => ?_)
    refine va_put (D := D) (ci := 6) (v := .int nv9) (ty := .int) (C := RX6) (T := TX6) (N := 12) hx hb hts (fun _ h => List.mem_cons_of_mem _ (List.mem_append_left _ (List.mem_append_right _ h))) tyX6 tyX6_ok nmX6 hown hK hP hD hS 1 rfl rfl 11 (by decide) (hts (.fieldLink RX6 108 "LitmusHall$Reader" "value" "I") (by decide +kernel)) (fun _ h9 => h9) rfl (by decide +kernel) rfl rfl (Nat.le_of_ble_eq_true rfl) dX6_takeSkip_21 (fun H locs hP hD hS => ?_)
    have hP : va_P D vwCl [(k6, .inl (cI, 501, .inl nf)), (h0, .inr (6, [v0, .int e_2, .int e_3, v3, .ref k4, .ref k5, .ref k6, v7, .int (nI t1), v9, v10, .int nv9])), (k4, .inl (cI, 501, .inl (fun j => nI (Kd j)))), (k5, .inl (cI, 501, .inl sf))] H := hP
    have hD : va_D A [(k6, .inl (cI, 501, .inl nf)), (h0, .inr (6, [v0, .int e_2, .int e_3, v3, .ref k4, .ref k5, .ref k6, v7, .int (nI t1), v9, v10, .int nv9])), (k4, .inl (cI, 501, .inl (fun j => nI (Kd j)))), (k5, .inl (cI, 501, .inl sf))] := hD
    refine lv_aload_n hx hb dX6_takeSkip_24 rfl (lv_at hl 0 rfl) ?_
    refine lv_bipush (v := 16) hx hb dX6_takeSkip_25 (by decide) ?_
    refine gx_goi (wc := [(h0, .inr (6, [v0, .int e_2, .int e_3, v3, .ref k4, .ref k5, .ref k6, v7, .int (nI t1), v9, v10, .int nv9])), (k4, .inl (cI, 501, .inl (fun j => nI (Kd j)))), (k5, .inl (cI, 501, .inl sf))]) (wr := [(k6, .inl (cI, 501, .inl nf))]) (va_runV (As := [.int 16]) (rest := []) ⟨hx, hb, hml, hown, hts⟩ (x_take l D cI cB cZ h0 k4 k5 (v0) (v3) (.ref k6) (v7) (v9) (v10) (.int nv9) e_2 e_3 Kd sf t1 16 (by omega) (hR.1 _ (by omega)) (by first | decide | omega | exact hR.1 _ (by omega)) _) (cwV 1 hts gP_x_takeSkip__x_take rfl rfl rfl (by decide +kernel) ⟨Nat.le_of_ble_eq_true rfl, Nat.le_of_ble_eq_true rfl⟩) (gx_preV (ci := 6) (q0 := 0) hK gN.nil hP hD [1, 2, 3] rfl rfl rfl rfl) rfl rfl hl.1 rfl (lv_room (Nat.le_of_ble_eq_true rfl)) dX6_takeSkip_27 ⟨Nat.le_of_ble_eq_true rfl, Nat.le_of_ble_eq_true rfl⟩) hP hD hS hA [1, 2, 3] [0] rfl rfl rfl (by decide) (fun r1 w1 H locs hp hP hD hS => ?_)
    obtain ⟨e_6, e_7, e_8, e_9, hq_10, hx27_0, h9, rfl⟩ := hp
    have h9 := h9.symm
    subst h9
    have hq_10 : (e_6 = 0 ∧ e_9 = t1 ∧ ¬ e_8 = 0) ∨ (e_6 = 1 ∧ e_9 = t1 + 1 ∧ t1 < 500 ∧ nI (Kd t1) = nI 16 ∧ e_8 = e_3) := hq_10
    have hx27_0 : rOut (rTake Kd 16 t1) e_9 (sf e_9) e_6 e_3 e_2 e_8 e_7 := hx27_0
    have htk := hq_10
    have htt := gTk0 htk (by omega)
    have hmx : nI (Kd t1) = 16 → ∃ x, x ≤ 999 ∧ nv9 = nI x := fun h => by obtain ⟨mm, hmm, emm⟩ := hR.2.1 t1 (by omega) ((nI_eq (a := Kd t1) (b := 16) (by have := hR.1 t1 (by omega); omega) (by decide)).mp h); exact ⟨mm, hmm, hnv9.trans emm⟩
    have hP := hP.sub (ws' := [(h0, .inr (6, [v0, .int e_7, .int e_8, v3, .ref k4, .ref k5, .ref k6, v7, .int (nI e_9), v9, v10, .int nv9])), (k4, .inl (cI, 501, .inl (fun j => nI (Kd j)))), (k5, .inl (cI, 501, .inl sf)), (k6, .inl (cI, 501, .inl nf))]) [1, 2, 3, 0] rfl
    have hD := hD.sub (ws' := [(h0, .inr (6, [v0, .int e_7, .int e_8, v3, .ref k4, .ref k5, .ref k6, v7, .int (nI e_9), v9, v10, .int nv9])), (k4, .inl (cI, 501, .inl (fun j => nI (Kd j)))), (k5, .inl (cI, 501, .inl sf)), (k6, .inl (cI, 501, .inl nf))]) [1, 2, 3, 0] (by decide) rfl
    exact gx_zret (w' := [(h0, .inr (6, [v0, .int e_7, .int e_8, v3, .ref k4, .ref k5, .ref k6, v7, .int (nI e_9), v9, v10, .int nv9])), (k4, .inl (cI, 501, .inl (fun j => nI (Kd j)))), (k5, .inl (cI, 501, .inl sf)), (k6, .inl (cI, 501, .inl nf))]) hx hb hr hlk hK hP hD hS (Nat.le_of_ble_eq_true rfl) (Nat.le_of_ble_eq_true rfl) dX6_takeSkip_30 (gy_z01 (gTk1 htk)) ⟨e_6, e_7, e_8, e_9, nv9, (gTk4 (gTk3 htk hmx) hty0.2.2.2 htt0.1), (by omega), (rOut_seq hx3_0 hz3 hx27_0), (fun _ => hnv9.trans (congrArg nf hty0.1)), rfl, rfl⟩
  · refine lv_iconst (v := 0) hx hb dX6_takeSkip_9 (by decide) ?_
    have hP := hP.sub (ws' := [(h0, .inr (6, [v0, .int e_2, .int e_3, v3, .ref k4, .ref k5, .ref k6, v7, .int (nI t1), v9, v10, .int vl])), (k4, .inl (cI, 501, .inl (fun j => nI (Kd j)))), (k5, .inl (cI, 501, .inl sf)), (k6, .inl (cI, 501, .inl nf))]) [1, 2, 3, 0] rfl
    have hD := hD.sub (ws' := [(h0, .inr (6, [v0, .int e_2, .int e_3, v3, .ref k4, .ref k5, .ref k6, v7, .int (nI t1), v9, v10, .int vl])), (k4, .inl (cI, 501, .inl (fun j => nI (Kd j)))), (k5, .inl (cI, 501, .inl sf)), (k6, .inl (cI, 501, .inl nf))]) [1, 2, 3, 0] (by decide) rfl
    exact gx_zret (w' := [(h0, .inr (6, [v0, .int e_2, .int e_3, v3, .ref k4, .ref k5, .ref k6, v7, .int (nI t1), v9, v10, .int vl])), (k4, .inl (cI, 501, .inl (fun j => nI (Kd j)))), (k5, .inl (cI, 501, .inl sf)), (k6, .inl (cI, 501, .inl nf))]) hx hb hr hlk hK hP hD hS (Nat.le_of_ble_eq_true rfl) (Nat.le_of_ble_eq_true rfl) dX6_takeSkip_10 rfl ⟨0, e_2, e_3, t1, vl, (Or.inl ⟨rfl, by rcases htk0 with h | h; exact h.2.2; exact absurd (h.1.symm.trans c_5) (by decide)⟩), htt0, (rOut_stp hx3_0 c_5), (fun h => absurd rfl h), rfl, rfl⟩
