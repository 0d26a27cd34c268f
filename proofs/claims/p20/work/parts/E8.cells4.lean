
section RC
variable {a : Nat × Nat} {t t1 t2 t3 t9 x q m n u k i : Nat} {s z fv pv fv1 pv1 fv9 pv9 lp lpx lp1 lp2 lp9 tl tl1 tl2 v : Int32} {Kd Tk L : Nat → Nat} {sf nf Q cf cf1 cf2 : Nat → Int32}
theorem rSn_y (h : lp1 = rSn sf k n Q Tk lp i) (hc : Q ((((k * 8) + i) * 8) + 7) ≤ nI (n - 1 - i)) : lp1 = rSn sf k n Q Tk lp (i + 1) := by
  show _ = if _ then _ else _
  rw [if_pos hc]
  exact h
theorem rSn_n (h : lp1 = rSn sf k n Q Tk lp i) (hc : ¬ Q ((((k * 8) + i) * 8) + 7) ≤ nI (n - 1 - i)) (h9 : lp9 = rNote lp1 (sf (Tk i))) : lp9 = rSn sf k n Q Tk lp (i + 1) := by
  show _ = if _ then _ else _
  rw [if_neg hc, ← h]
  exact h9
theorem rL4 (e : nf (t + 1) = nI m) (h4 : m < 4) : nf (t + 1) < 4 := by
  rw [e]
  exact (nI_ltI (a := m) (b := 4) (by omega) (by decide)).mpr h4
theorem rG4 (e : nf (t + 1) = nI m) (h4 : 4 ≤ m) (hm : m ≤ 999) : ¬ nf (t + 1) < 4 := by
  rw [e]
  exact fun h => absurd ((nI_ltI (a := m) (b := 4) (by omega) (by decide)).mp h) (by omega)
theorem rCp_1 (e : nf (t + 1) = nI m) (h4 : 4 ≤ m) (hm : m ≤ 999) (e1 : t1 = t + 1) (hl : lp9 = rPl sf nf 1 t1 lp) : lp9 = rCp sf nf t tl lp := by
  subst e1
  have g := rG4 e h4 hm
  unfold rCp
  rw [if_neg g, hl]
  exact if_neg g
theorem rCp_0 (e : nf (t + 1) = nI m) (h4 : m < 4) (e1 : t1 = t + 1) (hl : lp9 = rPl sf nf 1 t1 lp) (hb : rTb tl (nI m) = 0) : lp9 = rCp sf nf t tl lp := by
  subst e1
  have g := rL4 e h4
  unfold rCp
  rw [if_pos g, e, if_pos hb, hl]
  exact if_pos g
theorem rCp_n (e : nf (t + 1) = nI m) (h4 : m < 4) (e1 : t1 = t + 1) (hl : lpx = rPl sf nf 1 t1 lp) (hb : ¬ rTb tl (nI m) = 0) (eu : u = t + 1) (hn : lp9 = rNote lpx (sf u)) : lp9 = rCp sf nf t tl lp := by
  subst e1
  subst eu
  have g := rL4 e h4
  unfold rCp
  rw [if_pos g, e, if_neg hb, hn, hl]
  show rNote (if _ then _ else _) _ = _
  rw [if_pos g]
theorem rCt_1 (e : nf (t + 1) = nI m) (h4 : 4 ≤ m) (hm : m ≤ 999) : tl = rCt nf t tl := (if_neg (rG4 e h4 hm)).symm
theorem rCt_0 (e : nf (t + 1) = nI m) (h4 : m < 4) : tl ||| ((1 : Int32) <<< (nI m &&& 31)) = rCt nf t tl := by
  unfold rCt
  rw [if_pos (rL4 e h4), e]
theorem rCf_1 (e : nf (t + 1) = nI m) (h4 : 4 ≤ m) (hm : m ≤ 999) : cf = rCf Kd nf t cf := (if_neg (rG4 e h4 hm)).symm
theorem rCf_0 (e : nf (t + 1) = nI m) (h4 : m < 4) (e3 : t3 = t + 3) (hv : v = vInt Kd nf t3) : upd cf m v = rCf Kd nf t cf := by
  subst e3
  unfold rCf
  rw [if_pos (rL4 e h4), e, nI_clamp (by omega), hv]
theorem rCs_stp {X : (Nat × Nat) × Int32 × (Nat → Int32)} (hn : n ≤ 500) (hq : Kd t1 = 9) (hI : rCs Kd sf nf (501 - n) t1 lp1 tl1 cf1 = X) (h : (rCl Kd t1).1 ≠ 0) : rCl Kd t1 = X.1 := by
  rw [← hI, show 501 - n = (500 - n) + 1 by omega]
  exact (rCs_no hq h).symm
theorem rCs_step {X : (Nat × Nat) × Int32 × (Nat → Int32)} (hn : n ≤ 500) (hq : Kd t1 = 9) (hI : rCs Kd sf nf (501 - n) t1 lp1 tl1 cf1 = X) (h : rCl Kd t1 = (0, t2)) (e1 : lp2 = rCp sf nf t1 tl1 lp1) (e2 : tl2 = rCt nf t1 tl1) (e3 : cf2 = rCf Kd nf t1 cf1) : rCs Kd sf nf (501 - (n + 1)) t2 lp2 tl2 cf2 = X := by
  rw [show 501 - (n + 1) = 500 - n by omega, ← hI, show 501 - n = (500 - n) + 1 by omega, rCs_ok hq h, e1, e2, e3]
theorem rCs_end {X : (Nat × Nat) × Int32 × (Nat → Int32)} (hI : rCs Kd sf nf m t1 lp1 tl1 cf1 = X) (hq : ¬ Kd t1 = 9) : X = ((0, t1), lp1, cf1) := by
  rw [← hI, rCs_e hq]
theorem rOut_ok {X : (Nat × Nat) × Int32 × (Nat → Int32)} (h : X = ((0, t1), lp1, cf1)) (e1 : fv1 = fv) (e2 : pv1 = pv) : rOut X.1 t1 s 1 fv pv fv1 pv1 := by
  rw [h]
  exact ⟨rfl, Or.inl ⟨rfl, rfl, e1, e2⟩⟩
end RC
def wsP_x_checkSkips : List Cond := .code yX6_checkSkips cX6_checkSkips 3 none :: (([.fieldLink RX6 12 "LitmusHall$Reader" "draft" "LLitmusHall$Program;", .fieldLink RX6 174 "LitmusHall$Program" "lengths" "[I", .methodLink RX6 177 yX4_part, .instanceMethod yX4_part, .selects RX4 yX4_part yX4_part, .initialized RX4, .fieldLink RX6 32 "LitmusHall$Reader" "skipTokens" "[I", .methodLink RX6 115 yX6_noteLate, .instanceMethod yX6_noteLate, .selects RX6 yX6_noteLate yX6_noteLate, .initialized RX6] ++ wsX60 ++ wsX40) ++ (wsP_c_part ++ (wsP_x_noteLate ++ [])))
theorem gW_x_checkSkips : wsP_x_checkSkips.all goodWord = true := by unfold wsP_x_checkSkips; exact gw_mk (by decide +kernel) (gw_app gW_c_part (gw_app gW_x_noteLate rfl))
set_option maxRecDepth 20000 in
theorem gP_x_checkSkips__c_part : GoodIn wsP_x_checkSkips (wsV RX6 177 RX4 yX4_part wsP_c_part) := gw_in (pre := [.methodLink RX6 177 yX4_part, .instanceMethod yX4_part, .selects RX4 yX4_part yX4_part, .initialized RX4]) (by decide +kernel) (fun _ h => List.mem_cons_of_mem _ (List.mem_append_right _ (List.mem_append_left _ h))) gW_c_part
set_option maxRecDepth 20000 in
theorem gP_x_checkSkips__x_noteLate : GoodIn wsP_x_checkSkips (wsV RX6 115 RX6 yX6_noteLate wsP_x_noteLate) := gw_in (pre := [.methodLink RX6 115 yX6_noteLate, .instanceMethod yX6_noteLate, .selects RX6 yX6_noteLate yX6_noteLate, .initialized RX6]) (by decide +kernel) (fun _ h => List.mem_cons_of_mem _ (List.mem_append_right _ (List.mem_append_right _ (List.mem_append_left _ h)))) gW_x_noteLate
set_option maxHeartbeats 4000000 in
set_option maxRecDepth 100000 in
theorem x_checkSkips (l : Launch) (D : va_G) (cI cB cZ : ClassId) (h0 : Nat) (d0 : Nat) (e1 : Nat) (e3 : Nat) (k5 : Nat) (k7 : Nat) (v1 : Value) (v2 : Value) (v4 : Value) (v6 : Value) (v8 : Value) (v9 : Value) (v10 : Value) (v11 : Value) (w0 : Value) (w2 : Value) (lp : Int32) (sf : Nat → Int32) (Tk : Nat → Nat) (L : Nat → Nat) (pf : Nat → Int32) (k : Nat) (hk : k < 3) (hL : L k ≤ 6) (hTk : ∀ j, j < 6 → Tk j ≤ 500) (hsf : ∀ t, t < 501 → ¬ sf t = (-1)) (hgq : ∀ j, j < L k → gInq pf (((k * 8) + j) * 8) lp) : gMv l yX6_checkSkips wsP_x_checkSkips ({ frames := 2, cells := 0, slots := 0, locals := 44 }) D cI cB cZ [] [.ref h0, .int (nI k)] [(h0, .inr (6, [.ref d0, v1, v2, .int lp, v4, .ref k5, v6, .ref k7, v8, v9, v10, v11])), (k5, .inl (cI, 501, .inl sf)), (k7, .inl (cI, 6, .inl (fun j => nI (Tk j)))), (d0, .inr (4, [w0, .ref e1, w2, .ref e3])), (e1, .inl (cI, 3, .inl (fun j => nI (L j)))), (e3, .inl (cI, 192, .inl pf))] (fun w9 => ∃ lp9 : Int32, (lp9 = (-1) → lp = (-1)) ∧ (lp9 = (-1) → ∀ j, j < L k → gIns pf (((k * 8) + j) * 8) 5) ∧ (lp9 = rSn sf k (L k) pf Tk lp (L k)) ∧ w9 = [(h0, .inr (6, [.ref d0, v1, v2, .int lp9, v4, .ref k5, v6, .ref k7, v8, v9, v10, v11])), (k5, .inl (cI, 501, .inl sf)), (k7, .inl (cI, 6, .inl (fun j => nI (Tk j)))), (d0, .inr (4, [w0, .ref e1, w2, .ref e3])), (e1, .inl (cI, 3, .inl (fun j => nI (L j)))), (e3, .inl (cI, 192, .inl pf))]) := by
  refine gMv.of (cc := cX6_checkSkips) (maxL := 3) (ret := none) (by decide) rfl (Nat.le_of_ble_eq_true rfl) (fun p e s m below meth c A ls hx hb hr hlk hml hts hown hin hA hP hK hD hS hN hl => ?_)
  have hown : s.vm.findClass RX6 = some m.cls := hown
  have hl : lv_has ls 3 [(0, .ref h0), (1, .int (nI k))] := hl
  refine lv_iconst (v := 0) hx hb dX6_checkSkips_0 (by decide) ?_
  refine lv_istore_n (lv' := [(2, .int 0), (0, .ref h0), (1, .int (nI k))]) hx hb dX6_checkSkips_1 rfl hl (by decide) rfl (fun ls hl => ?_)
  refine gy_loop0 (I := fun (x9 : Nat × Int32) H locs ls => (x9.1 ≤ L k) ∧ (x9.2 = (-1) → lp = (-1)) ∧ (x9.2 = (-1) → ∀ j, j < x9.1 → gIns pf (((k * 8) + j) * 8) 5) ∧ (x9.2 = rSn sf k (L k) pf Tk lp x9.1) ∧ va_P D vwCl [(h0, .inr (6, [.ref d0, v1, v2, .int x9.2, v4, .ref k5, v6, .ref k7, v8, v9, v10, v11])), (k5, .inl (cI, 501, .inl sf)), (k7, .inl (cI, 6, .inl (fun j => nI (Tk j)))), (d0, .inr (4, [w0, .ref e1, w2, .ref e3])), (e1, .inl (cI, 3, .inl (fun j => nI (L j)))), (e3, .inl (cI, 192, .inl pf))] H ∧ va_D A [(h0, .inr (6, [.ref d0, v1, v2, .int x9.2, v4, .ref k5, v6, .ref k7, v8, v9, v10, v11])), (k5, .inl (cI, 501, .inl sf)), (k7, .inl (cI, 6, .inl (fun j => nI (Tk j)))), (d0, .inr (4, [w0, .ref e1, w2, .ref e3])), (e1, .inl (cI, 3, .inl (fun j => nI (L j)))), (e3, .inl (cI, 192, .inl pf))] ∧ va_S A s.heap H locs ∧ lv_has ls 3 [(2, .int (nI x9.1)), (0, .ref h0), (1, .int (nI k))]) (μ := fun (x9 : Nat × Int32) => L k - x9.1) (fun x9 H locs ls hI ih2 => ?_) (0, lp) ⟨(by show 0 ≤ L k; exact Nat.zero_le _), (fun h => h), (fun _ j h => absurd h (Nat.not_lt_zero j)), rfl, hP, hD, hS, lv_sub hl [0, 1, 2] rfl⟩
  obtain ⟨i, lp1⟩ := x9
  obtain ⟨hi2_0, hi2_1, hi2_2, hi2_3, hP, hD, hS, hl⟩ := hI
  have hi2_0 : i ≤ L k := hi2_0
  have hi2_1 : lp1 = (-1) → lp = (-1) := hi2_1
  have hi2_2 : lp1 = (-1) → ∀ j, j < i → gIns pf (((k * 8) + j) * 8) 5 := hi2_2
  have hi2_3 : lp1 = rSn sf k (L k) pf Tk lp i := hi2_3
  have hP : va_P D vwCl [(h0, .inr (6, [.ref d0, v1, v2, .int lp1, v4, .ref k5, v6, .ref k7, v8, v9, v10, v11])), (k5, .inl (cI, 501, .inl sf)), (k7, .inl (cI, 6, .inl (fun j => nI (Tk j)))), (d0, .inr (4, [w0, .ref e1, w2, .ref e3])), (e1, .inl (cI, 3, .inl (fun j => nI (L j)))), (e3, .inl (cI, 192, .inl pf))] H := hP
  have hD : va_D A [(h0, .inr (6, [.ref d0, v1, v2, .int lp1, v4, .ref k5, v6, .ref k7, v8, v9, v10, v11])), (k5, .inl (cI, 501, .inl sf)), (k7, .inl (cI, 6, .inl (fun j => nI (Tk j)))), (d0, .inr (4, [w0, .ref e1, w2, .ref e3])), (e1, .inl (cI, 3, .inl (fun j => nI (L j)))), (e3, .inl (cI, 192, .inl pf))] := hD
  have hS : va_S A s.heap H locs := hS
  have hl : lv_has ls 3 [(2, .int (nI i)), (0, .ref h0), (1, .int (nI k))] := hl
  refine lv_iload_n hx hb dX6_checkSkips_2 rfl (lv_at hl 0 rfl) ?_
  refine lv_aload_n hx hb dX6_checkSkips_3 rfl (lv_at hl 1 rfl) ?_
  refine va_get (D := D) (ci := 6) (v := .ref d0) (C := RX6) (T := TX6) (N := 12) hx hb hts (fun _ h => List.mem_cons_of_mem _ (List.mem_append_left _ (List.mem_append_left _ (List.mem_append_right _ h)))) hown hK hP 0 rfl rfl 0 (by decide) (hts (.fieldLink RX6 12 "LitmusHall$Reader" "draft" "LLitmusHall$Program;") (by decide +kernel)) (fun _ h9 => h9) rfl dX6_checkSkips_4 ?_
  refine va_get (D := D) (ci := 4) (v := .ref e1) (C := RX4) (T := TX4) (N := 4) hx hb hts (fun _ h => List.mem_cons_of_mem _ (List.mem_append_left _ (List.mem_append_right _ h))) hown hK hP 3 rfl rfl 1 (by decide) (hts (.fieldLink RX6 174 "LitmusHall$Program" "lengths" "[I") (by decide +kernel)) (fun _ h9 => h9) rfl dX6_checkSkips_7 ?_
  refine lv_iload_n hx hb dX6_checkSkips_10 rfl (lv_at hl 2 rfl) ?_
  refine gy_ild (i := k) hx hb hK hP 4 rfl (by omega) (by omega) dX6_checkSkips_11 ?_
  refine gx_top (y := nI (L k)) rfl ?_
  refine gy_ge (a := i) (b := (L k)) (tgt := 58) hx hb (by omega) (by omega) dX6_checkSkips_12 (by decide) (fun c_1 => ?_) (fun c_1 => ?_)
  · exact gx_vret (w' := [(h0, .inr (6, [.ref d0, v1, v2, .int lp1, v4, .ref k5, v6, .ref k7, v8, v9, v10, v11])), (k5, .inl (cI, 501, .inl sf)), (k7, .inl (cI, 6, .inl (fun j => nI (Tk j)))), (d0, .inr (4, [w0, .ref e1, w2, .ref e3])), (e1, .inl (cI, 3, .inl (fun j => nI (L j)))), (e3, .inl (cI, 192, .inl pf))]) hx hb hr hlk hK hP hD hS (Nat.le_of_ble_eq_true rfl) (Nat.le_of_ble_eq_true rfl) dX6_checkSkips_58 ⟨lp1, hi2_1, (fun h j hj => hi2_2 h j (by omega)), (hi2_3.trans (congrArg (rSn sf k (L k) pf Tk lp) (by omega))), rfl⟩
  · refine lv_aload_n hx hb dX6_checkSkips_15 rfl (lv_at hl 1 rfl) ?_
    refine va_get (D := D) (ci := 6) (v := .ref d0) (C := RX6) (T := TX6) (N := 12) hx hb hts (fun _ h => List.mem_cons_of_mem _ (List.mem_append_left _ (List.mem_append_left _ (List.mem_append_right _ h)))) hown hK hP 0 rfl rfl 0 (by decide) (hts (.fieldLink RX6 12 "LitmusHall$Reader" "draft" "LLitmusHall$Program;") (by decide +kernel)) (fun _ h9 => h9) rfl dX6_checkSkips_16 ?_
    refine lv_iload_n hx hb dX6_checkSkips_19 rfl (lv_at hl 2 rfl) ?_
    refine lv_iload_n hx hb dX6_checkSkips_20 rfl (lv_at hl 0 rfl) ?_
    refine lv_bipush (v := 7) hx hb dX6_checkSkips_21 (by decide) ?_
    refine gx_goi (wc := [(d0, .inr (4, [w0, .ref e1, w2, .ref e3])), (e3, .inl (cI, 192, .inl pf))]) (wr := [(h0, .inr (6, [.ref d0, v1, v2, .int lp1, v4, .ref k5, v6, .ref k7, v8, v9, v10, v11])), (k5, .inl (cI, 501, .inl sf)), (k7, .inl (cI, 6, .inl (fun j => nI (Tk j)))), (e1, .inl (cI, 3, .inl (fun j => nI (L j))))]) (va_runV (As := [.int (nI k), .int (nI i), .int 7]) (rest := []) ⟨hx, hb, hml, hown, hts⟩ (c_part l D cI cB cZ d0 e3 (w0) (.ref e1) (w2) pf k i 7 (by omega) (by omega) (by omega) _) (cwV 3 hts gP_x_checkSkips__c_part rfl rfl rfl (by decide +kernel) ⟨Nat.le_of_ble_eq_true rfl, Nat.le_of_ble_eq_true rfl⟩) (gx_preV (ci := 4) (q0 := 0) hK gN.nil hP hD [3, 5] rfl rfl rfl rfl) rfl rfl hl.1 rfl (lv_room (Nat.le_of_ble_eq_true rfl)) dX6_checkSkips_23 ⟨Nat.le_of_ble_eq_true rfl, Nat.le_of_ble_eq_true rfl⟩) hP hD hS hA [3, 5] [0, 1, 2, 4] rfl rfl rfl (by decide) (fun r1 w1 H locs hp hP hD hS => ?_)
    obtain ⟨h9, rfl⟩ := hp
    have h9 := h9.symm
    subst h9
    refine lv_aload_n hx hb dX6_checkSkips_26 rfl (lv_at hl 1 rfl) ?_
    refine va_get (D := D) (ci := 6) (v := .ref d0) (C := RX6) (T := TX6) (N := 12) hx hb hts (fun _ h => List.mem_cons_of_mem _ (List.mem_append_left _ (List.mem_append_left _ (List.mem_append_right _ h)))) hown hK hP 0 rfl rfl 0 (by decide) (hts (.fieldLink RX6 12 "LitmusHall$Reader" "draft" "LLitmusHall$Program;") (by decide +kernel)) (fun _ h9 => h9) rfl dX6_checkSkips_27 ?_
    refine va_get (D := D) (ci := 4) (v := .ref e1) (C := RX4) (T := TX4) (N := 4) hx hb hts (fun _ h => List.mem_cons_of_mem _ (List.mem_append_left _ (List.mem_append_right _ h))) hown hK hP 4 rfl rfl 1 (by decide) (hts (.fieldLink RX6 174 "LitmusHall$Program" "lengths" "[I") (by decide +kernel)) (fun _ h9 => h9) rfl dX6_checkSkips_30 ?_
    refine lv_iload_n hx hb dX6_checkSkips_33 rfl (lv_at hl 2 rfl) ?_
    refine gy_ild (i := k) hx hb hK hP 3 rfl (by omega) (by omega) dX6_checkSkips_34 ?_
    refine gx_top (y := nI (L k)) rfl ?_
    refine lv_iconst (v := 1) hx hb dX6_checkSkips_35 (by decide) ?_
    refine lv_isub hx hb dX6_checkSkips_36 ?_
    refine gx_top (y := nI ((L k) - 1)) (pk_sub (a := L k) (b := 1) (by omega)) ?_
    refine lv_iload_n hx hb dX6_checkSkips_37 rfl (lv_at hl 0 rfl) ?_
    refine lv_isub hx hb dX6_checkSkips_38 ?_
    refine gx_top (y := nI (((L k) - 1) - i)) (pk_sub (a := (L k) - 1) (b := i) (by omega)) ?_
    refine lv_icmp_le (tgt := 52) hx hb dX6_checkSkips_39 (by decide) (fun c_2 => ?_) (fun c_2 => ?_)
    · refine lv_iinc (v := nI (i + 1)) (lv' := [(2, .int (nI (i + 1))), (0, .ref h0), (1, .int (nI k))]) hx hb dX6_checkSkips_52 hl (k := 0) rfl (nI_add i 1) (by decide) rfl (fun ls hl => ?_)
      refine lv_goto (tgt := 2) hx hb dX6_checkSkips_55 (by decide) ?_
      have hP := hP.sub (ws' := [(h0, .inr (6, [.ref d0, v1, v2, .int lp1, v4, .ref k5, v6, .ref k7, v8, v9, v10, v11])), (k5, .inl (cI, 501, .inl sf)), (k7, .inl (cI, 6, .inl (fun j => nI (Tk j)))), (d0, .inr (4, [w0, .ref e1, w2, .ref e3])), (e1, .inl (cI, 3, .inl (fun j => nI (L j)))), (e3, .inl (cI, 192, .inl pf))]) [0, 1, 2, 4, 3, 5] rfl
      have hD := hD.sub (ws' := [(h0, .inr (6, [.ref d0, v1, v2, .int lp1, v4, .ref k5, v6, .ref k7, v8, v9, v10, v11])), (k5, .inl (cI, 501, .inl sf)), (k7, .inl (cI, 6, .inl (fun j => nI (Tk j)))), (d0, .inr (4, [w0, .ref e1, w2, .ref e3])), (e1, .inl (cI, 3, .inl (fun j => nI (L j)))), (e3, .inl (cI, 192, .inl pf))]) [0, 1, 2, 4, 3, 5] (by decide) rfl
      exact ih2 ((i + 1), lp1) H locs ls ⟨(by show (i + 1) ≤ L k; omega), (by first | exact fun h => absurd h hln | exact hi2_1), (by first | exact fun h => absurd h hln | exact fun h j hj => (by by_cases e9 : j = i; (subst e9; exact gIns_q (hgq j (by omega)) (hi2_1 h) (by omega) c_2); exact hi2_2 h j (by omega))), (by first | exact rSn_n hi2_3 c_1 hx49_0 | exact rSn_y hi2_3 c_2), hP, hD, hS, lv_sub hl [0, 1, 2] rfl⟩ (by show L k - (i + 1) < L k - i; omega)
    · refine lv_aload_n hx hb dX6_checkSkips_42 rfl (lv_at hl 1 rfl) ?_
      refine lv_aload_n hx hb dX6_checkSkips_43 rfl (lv_at hl 1 rfl) ?_
      refine va_get (D := D) (ci := 6) (v := .ref k7) (C := RX6) (T := TX6) (N := 12) hx hb hts (fun _ h => List.mem_cons_of_mem _ (List.mem_append_left _ (List.mem_append_left _ (List.mem_append_right _ h)))) hown hK hP 0 rfl rfl 7 (by decide) (hts (.fieldLink RX6 32 "LitmusHall$Reader" "skipTokens" "[I") (by decide +kernel)) (fun _ h9 => h9) rfl dX6_checkSkips_44 ?_
      refine lv_iload_n hx hb dX6_checkSkips_47 rfl (lv_at hl 0 rfl) ?_
      refine gy_ild (i := i) hx hb hK hP 2 rfl (by omega) (by omega) dX6_checkSkips_48 ?_
      refine gx_top (y := nI (Tk i)) rfl ?_
      have hTi := hTk i (by omega)
      refine gx_gov (wc := [(h0, .inr (6, [.ref d0, v1, v2, .int lp1, v4, .ref k5, v6, .ref k7, v8, v9, v10, v11])), (k5, .inl (cI, 501, .inl sf))]) (wr := [(k7, .inl (cI, 6, .inl (fun j => nI (Tk j)))), (e1, .inl (cI, 3, .inl (fun j => nI (L j)))), (d0, .inr (4, [w0, .ref e1, w2, .ref e3])), (e3, .inl (cI, 192, .inl pf))]) (va_runV (As := [.int (nI (Tk i))]) (rest := []) ⟨hx, hb, hml, hown, hts⟩ (x_noteLate l D cI cB cZ h0 k5 (.ref d0) (v1) (v2) (v4) (v6) (.ref k7) (v8) (v9) (v10) (v11) lp1 sf (Tk i) (by omega) (hsf _ (by omega)) _) (cwV 1 hts gP_x_checkSkips__x_noteLate rfl rfl rfl (by decide +kernel) ⟨Nat.le_of_ble_eq_true rfl, Nat.le_of_ble_eq_true rfl⟩) (gx_preV (ci := 6) (q0 := 0) hK gN.nil hP hD [0, 1] rfl rfl rfl rfl) rfl rfl hl.1 rfl (lv_room (Nat.le_of_ble_eq_true rfl)) dX6_checkSkips_49 ⟨Nat.le_of_ble_eq_true rfl, Nat.le_of_ble_eq_true rfl⟩) hP hD hS hA [0, 1] [2, 3, 4, 5] rfl rfl rfl (by decide) (fun w1 H locs hp hP hD hS => ?_)
      obtain ⟨e_3, hq_4, hx49_0, rfl⟩ := hp
      have hq_4 : ¬ e_3 = (-1) := hq_4
      have hx49_0 : e_3 = rNote lp1 (sf (Tk i)) := hx49_0
      have hln := hq_4
      refine lv_iinc (v := nI (i + 1)) (lv' := [(2, .int (nI (i + 1))), (0, .ref h0), (1, .int (nI k))]) hx hb dX6_checkSkips_52 hl (k := 0) rfl (nI_add i 1) (by decide) rfl (fun ls hl => ?_)
      refine lv_goto (tgt := 2) hx hb dX6_checkSkips_55 (by decide) ?_
      have hP := hP.sub (ws' := [(h0, .inr (6, [.ref d0, v1, v2, .int e_3, v4, .ref k5, v6, .ref k7, v8, v9, v10, v11])), (k5, .inl (cI, 501, .inl sf)), (k7, .inl (cI, 6, .inl (fun j => nI (Tk j)))), (d0, .inr (4, [w0, .ref e1, w2, .ref e3])), (e1, .inl (cI, 3, .inl (fun j => nI (L j)))), (e3, .inl (cI, 192, .inl pf))]) [4, 5, 0, 2, 1, 3] rfl
      have hD := hD.sub (ws' := [(h0, .inr (6, [.ref d0, v1, v2, .int e_3, v4, .ref k5, v6, .ref k7, v8, v9, v10, v11])), (k5, .inl (cI, 501, .inl sf)), (k7, .inl (cI, 6, .inl (fun j => nI (Tk j)))), (d0, .inr (4, [w0, .ref e1, w2, .ref e3])), (e1, .inl (cI, 3, .inl (fun j => nI (L j)))), (e3, .inl (cI, 192, .inl pf))]) [4, 5, 0, 2, 1, 3] (by decide) rfl
      exact ih2 ((i + 1), e_3) H locs ls ⟨(by show (i + 1) ≤ L k; omega), (by first | exact fun h => absurd h hln | exact hi2_1), (by first | exact fun h => absurd h hln | exact fun h j hj => (by by_cases e9 : j = i; (subst e9; exact gIns_q (hgq j (by omega)) (hi2_1 h) (by omega) hq_4); exact hi2_2 h j (by omega))), (by first | exact rSn_n hi2_3 c_2 hx49_0 | exact rSn_y hi2_3 hq_4), hP, hD, hS, lv_sub hl [0, 1, 2] rfl⟩ (by show L k - (i + 1) < L k - i; omega)
def wsP_x_readCellLine : List Cond := .code yX6_readCellLine cX6_readCellLine 3 (some .boolean) :: (([.methodLink RX6 102 yX6_take, .instanceMethod yX6_take, .selects RX6 yX6_take yX6_take, .initialized RX6, .methodLink RX6 105 yX6_takeCell, .instanceMethod yX6_takeCell, .selects RX6 yX6_takeCell yX6_takeCell, .fieldLink RX6 108 "LitmusHall$Reader" "value" "I", .fieldLink RX6 45 "LitmusHall$Reader" "at" "I", .methodLink RX6 111 yX6_takeVal, .instanceMethod yX6_takeVal, .selects RX6 yX6_takeVal yX6_takeVal, .fieldLink RX6 48 "LitmusHall$Reader" "told" "I", .fieldLink RX6 12 "LitmusHall$Reader" "draft" "LLitmusHall$Program;", .fieldLink RX6 119 "LitmusHall$Program" "cells" "[I", .methodLink RX6 115 yX6_noteLate, .instanceMethod yX6_noteLate, .selects RX6 yX6_noteLate yX6_noteLate] ++ wsX60 ++ wsX40) ++ (wsP_x_take ++ (wsP_x_takeCell ++ (wsP_x_takeVal0 ++ (wsP_x_noteLate ++ [])))))
theorem gW_x_readCellLine : wsP_x_readCellLine.all goodWord = true := by unfold wsP_x_readCellLine; exact gw_mk (by decide +kernel) (gw_app gW_x_take (gw_app gW_x_takeCell (gw_app gW_x_takeVal0 (gw_app gW_x_noteLate rfl))))
set_option maxRecDepth 20000 in
theorem gP_x_readCellLine__x_take : GoodIn wsP_x_readCellLine (wsV RX6 102 RX6 yX6_take wsP_x_take) := gw_in (pre := [.methodLink RX6 102 yX6_take, .instanceMethod yX6_take, .selects RX6 yX6_take yX6_take, .initialized RX6]) (by decide +kernel) (fun _ h => List.mem_cons_of_mem _ (List.mem_append_right _ (List.mem_append_left _ h))) gW_x_take
set_option maxRecDepth 20000 in
theorem gP_x_readCellLine__x_takeCell : GoodIn wsP_x_readCellLine (wsV RX6 105 RX6 yX6_takeCell wsP_x_takeCell) := gw_in (pre := [.methodLink RX6 105 yX6_takeCell, .instanceMethod yX6_takeCell, .selects RX6 yX6_takeCell yX6_takeCell, .initialized RX6]) (by decide +kernel) (fun _ h => List.mem_cons_of_mem _ (List.mem_append_right _ (List.mem_append_right _ (List.mem_append_left _ h)))) gW_x_takeCell
set_option maxRecDepth 20000 in
theorem gP_x_readCellLine__x_takeVal0 : GoodIn wsP_x_readCellLine (wsV RX6 111 RX6 yX6_takeVal wsP_x_takeVal0) := gw_in (pre := [.methodLink RX6 111 yX6_takeVal, .instanceMethod yX6_takeVal, .selects RX6 yX6_takeVal yX6_takeVal, .initialized RX6]) (by decide +kernel) (fun _ h => List.mem_cons_of_mem _ (List.mem_append_right _ (List.mem_append_right _ (List.mem_append_right _ (List.mem_append_left _ h))))) gW_x_takeVal0
set_option maxRecDepth 20000 in
theorem gP_x_readCellLine__x_noteLate : GoodIn wsP_x_readCellLine (wsV RX6 115 RX6 yX6_noteLate wsP_x_noteLate) := gw_in (pre := [.methodLink RX6 115 yX6_noteLate, .instanceMethod yX6_noteLate, .selects RX6 yX6_noteLate yX6_noteLate, .initialized RX6]) (by decide +kernel) (fun _ h => List.mem_cons_of_mem _ (List.mem_append_right _ (List.mem_append_right _ (List.mem_append_right _ (List.mem_append_right _ (List.mem_append_left _ h)))))) gW_x_noteLate
set_option maxHeartbeats 4000000 in
set_option maxRecDepth 100000 in
theorem x_readCellLine (l : Launch) (D : va_G) (cI cB cZ : ClassId) (h0 : Nat) (d0 : Nat) (e2 : Nat) (k4 : Nat) (k5 : Nat) (k6 : Nat) (v7 : Value) (w0 : Value) (w1 : Value) (w3 : Value) (Kd : Nat → Nat) (sf : Nat → Int32) (nf : Nat → Int32) (pv : Int32) (fv : Int32) (lp : Int32) (t : Nat) (tl : Int32) (vr : Int32) (vl : Int32) (cf : Nat → Int32) (ht : t ≤ 500) (hR : gRdI Kd nf sf) : gMi l yX6_readCellLine wsP_x_readCellLine ({ frames := 3, cells := 0, slots := 0, locals := 64 }) D cI cB cZ [] [.ref h0] [(h0, .inr (6, [.ref d0, .int pv, .int fv, .int lp, .ref k4, .ref k5, .ref k6, v7, .int (nI t), .int tl, .int vr, .int vl])), (k4, .inl (cI, 501, .inl (fun j => nI (Kd j)))), (k5, .inl (cI, 501, .inl sf)), (k6, .inl (cI, 501, .inl nf)), (d0, .inr (4, [w0, w1, .ref e2, w3])), (e2, .inl (cI, 4, .inl cf))] (fun r9 w9 => ∃ z : Int32, ∃ pv9 : Int32, ∃ fv9 : Int32, ∃ lp9 : Int32, ∃ t9 : Nat, ∃ tl9 : Int32, ∃ vr9 : Int32, ∃ vl9 : Int32, ∃ cf9 : Nat → Int32, ((z = 0 ∧ ¬ fv9 = 0) ∨ (z = 1 ∧ fv9 = fv ∧ t < t9)) ∧ (t ≤ t9 ∧ t9 ≤ 500) ∧ (lp9 = (-1) → lp = (-1)) ∧ (rOut (rCl Kd t) t9 (sf t9) z fv pv fv9 pv9) ∧ (¬ z = 0 → lp9 = rCp sf nf t tl lp ∧ tl9 = rCt nf t tl ∧ cf9 = rCf Kd nf t cf) ∧ r9 = z ∧ w9 = [(h0, .inr (6, [.ref d0, .int pv9, .int fv9, .int lp9, .ref k4, .ref k5, .ref k6, v7, .int (nI t9), .int tl9, .int vr9, .int vl9])), (k4, .inl (cI, 501, .inl (fun j => nI (Kd j)))), (k5, .inl (cI, 501, .inl sf)), (k6, .inl (cI, 501, .inl nf)), (d0, .inr (4, [w0, w1, .ref e2, w3])), (e2, .inl (cI, 4, .inl cf9))]) := by
  refine gMi.of (cc := cX6_readCellLine) (maxL := 3) (ret := (some .boolean)) (by decide) rfl (Nat.le_of_ble_eq_true rfl) (fun p e s m below meth c A ls hx hb hr hlk hml hts hown hin hA hP hK hD hS hN hl => ?_)
  have hown : s.vm.findClass RX6 = some m.cls := hown
  have hl : lv_has ls 3 [(0, .ref h0)] := hl
  refine lv_aload_n hx hb dX6_readCellLine_0 rfl (lv_at hl 0 rfl) ?_
  refine lv_bipush (v := 9) hx hb dX6_readCellLine_1 (by decide) ?_
  refine gx_goi (wc := [(h0, .inr (6, [.ref d0, .int pv, .int fv, .int lp, .ref k4, .ref k5, .ref k6, v7, .int (nI t), .int tl, .int vr, .int vl])), (k4, .inl (cI, 501, .inl (fun j => nI (Kd j)))), (k5, .inl (cI, 501, .inl sf))]) (wr := [(k6, .inl (cI, 501, .inl nf)), (d0, .inr (4, [w0, w1, .ref e2, w3])), (e2, .inl (cI, 4, .inl cf))]) (va_runV (As := [.int 9]) (rest := []) ⟨hx, hb, hml, hown, hts⟩ (x_take l D cI cB cZ h0 k4 k5 (.ref d0) (.int lp) (.ref k6) (v7) (.int tl) (.int vr) (.int vl) pv fv Kd sf t 9 (by omega) (hR.1 _ (by omega)) (by first | decide | omega | exact hR.1 _ (by omega)) _) (cwV 1 hts gP_x_readCellLine__x_take rfl rfl rfl (by decide +kernel) ⟨Nat.le_of_ble_eq_true rfl, Nat.le_of_ble_eq_true rfl⟩) (gx_preV (ci := 6) (q0 := 0) hK gN.nil hP hD [0, 1, 2] rfl rfl rfl rfl) rfl rfl hl.1 rfl (lv_room (Nat.le_of_ble_eq_true rfl)) dX6_readCellLine_3 ⟨Nat.le_of_ble_eq_true rfl, Nat.le_of_ble_eq_true rfl⟩) hP hD hS hA [0, 1, 2] [3, 4, 5] rfl rfl rfl (by decide) (fun r1 w1 H locs hp hP hD hS => ?_)
  obtain ⟨e_1, e_2, e_3, e_4, hq_5, hx3_0, h9, rfl⟩ := hp
  have h9 := h9.symm
  subst h9
  have hq_5 : (e_1 = 0 ∧ e_4 = t ∧ ¬ e_3 = 0) ∨ (e_1 = 1 ∧ e_4 = t + 1 ∧ t < 500 ∧ nI (Kd t) = nI 9 ∧ e_3 = fv) := hq_5
  have hx3_0 : rOut (rTake Kd 9 t) e_4 (sf e_4) e_1 fv pv e_3 e_2 := hx3_0
  have hk1 := hq_5
  have hk1t := gTk0 hk1 (by omega)
  refine lv_if_eq (tgt := 16) hx hb dX6_readCellLine_6 (by decide) (fun c_6 => ?_) (fun c_6 => ?_)
  · refine lv_iconst (v := 0) hx hb dX6_readCellLine_16 (by decide) ?_
    have hP := hP.sub (ws' := [(h0, .inr (6, [.ref d0, .int e_2, .int e_3, .int lp, .ref k4, .ref k5, .ref k6, v7, .int (nI e_4), .int tl, .int vr, .int vl])), (k4, .inl (cI, 501, .inl (fun j => nI (Kd j)))), (k5, .inl (cI, 501, .inl sf)), (k6, .inl (cI, 501, .inl nf)), (d0, .inr (4, [w0, w1, .ref e2, w3])), (e2, .inl (cI, 4, .inl cf))]) [3, 4, 5, 0, 1, 2] rfl
    have hD := hD.sub (ws' := [(h0, .inr (6, [.ref d0, .int e_2, .int e_3, .int lp, .ref k4, .ref k5, .ref k6, v7, .int (nI e_4), .int tl, .int vr, .int vl])), (k4, .inl (cI, 501, .inl (fun j => nI (Kd j)))), (k5, .inl (cI, 501, .inl sf)), (k6, .inl (cI, 501, .inl nf)), (d0, .inr (4, [w0, w1, .ref e2, w3])), (e2, .inl (cI, 4, .inl cf))]) [3, 4, 5, 0, 1, 2] (by decide) rfl
    exact gx_zret (w' := [(h0, .inr (6, [.ref d0, .int e_2, .int e_3, .int lp, .ref k4, .ref k5, .ref k6, v7, .int (nI e_4), .int tl, .int vr, .int vl])), (k4, .inl (cI, 501, .inl (fun j => nI (Kd j)))), (k5, .inl (cI, 501, .inl sf)), (k6, .inl (cI, 501, .inl nf)), (d0, .inr (4, [w0, w1, .ref e2, w3])), (e2, .inl (cI, 4, .inl cf))]) hx hb hr hlk hK hP hD hS (Nat.le_of_ble_eq_true rfl) (Nat.le_of_ble_eq_true rfl) dX6_readCellLine_17 rfl ⟨0, e_2, e_3, lp, e_4, tl, vr, vl, cf, (Or.inl ⟨rfl, by first | exact gTkN (hk5.imp (fun h => ⟨h.1, h.2.2⟩) id) c_6 | exact gTkN hk4 c_6 | exact gTkN (hk3.imp (fun h => ⟨h.1, h.2.2⟩) id) c_6 | exact gTkN hk2 c_6 | exact gTkN (hk1.imp (fun h => ⟨h.1, h.2.2⟩) id) c_6⟩), (by omega), (by first | exact hpl | exact fun h => h), (by first | exact rOut_0 (rOut_seq (rOut_seq (rOut_seq (rOut_seq hx3_0 hz3 hx10_0) hz10 hx33_0) hz33 hx41_0) hz41 hx50_0) c_6 | exact (rOut_stp (rOut_0 (rOut_seq (rOut_seq (rOut_seq hx3_0 hz3 hx10_0) hz10 hx33_0) hz33 hx41_0) c_6) rfl) | exact (rOut_stp (rOut_stp (rOut_0 (rOut_seq (rOut_seq hx3_0 hz3 hx10_0) hz10 hx33_0) c_6) rfl) rfl) | exact (rOut_stp (rOut_stp (rOut_stp (rOut_0 (rOut_seq hx3_0 hz3 hx10_0) c_6) rfl) rfl) rfl) | exact (rOut_stp (rOut_stp (rOut_stp (rOut_stp hx3_0 c_6) rfl) rfl) rfl)), (fun h => absurd rfl h), rfl, rfl⟩
  · have hy1 := gTkY hk1 c_6
    have hz3 := c_6
    refine lv_aload_n hx hb dX6_readCellLine_9 rfl (lv_at hl 0 rfl) ?_
    refine gx_goi (wc := [(h0, .inr (6, [.ref d0, .int e_2, .int e_3, .int lp, .ref k4, .ref k5, .ref k6, v7, .int (nI e_4), .int tl, .int vr, .int vl])), (k4, .inl (cI, 501, .inl (fun j => nI (Kd j)))), (k5, .inl (cI, 501, .inl sf)), (k6, .inl (cI, 501, .inl nf))]) (wr := [(d0, .inr (4, [w0, w1, .ref e2, w3])), (e2, .inl (cI, 4, .inl cf))]) (va_runV (As := []) (rest := []) ⟨hx, hb, hml, hown, hts⟩ (x_takeCell l D cI cB cZ h0 k4 k5 k6 (.ref d0) (v7) (.int tl) (.int vr) e_2 e_3 Kd sf nf e_4 vl lp (by omega) hR _) (cwV 0 hts gP_x_readCellLine__x_takeCell rfl rfl rfl (by decide +kernel) ⟨Nat.le_of_ble_eq_true rfl, Nat.le_of_ble_eq_true rfl⟩) (gx_preV (ci := 6) (q0 := 0) hK gN.nil hP hD [3, 4, 5, 0] rfl rfl rfl rfl) rfl rfl hl.1 rfl (lv_room (Nat.le_of_ble_eq_true rfl)) dX6_readCellLine_10 ⟨Nat.le_of_ble_eq_true rfl, Nat.le_of_ble_eq_true rfl⟩) hP hD hS hA [3, 4, 5, 0] [1, 2] rfl rfl rfl (by decide) (fun r1 w1 H locs hp hP hD hS => ?_)
    obtain ⟨e_7, e_8, e_9, e_10, vlx, e_11, hq_12, hq_13, hq_14, hx10_0, hx10_1, h9, rfl⟩ := hp
    have h9 := h9.symm
    subst h9
    have hq_12 : (e_7 = 0 ∧ ¬ e_9 = 0) ∨ (e_7 = 1 ∧ e_9 = e_3 ∧ e_4 < e_10 ∧ (∃ x, x ≤ 999 ∧ vlx = nI x ∧ (e_11 = (-1) → x < 4))) := hq_12
    have hq_13 : e_4 ≤ e_10 ∧ e_10 ≤ 500 := hq_13
    have hq_14 : e_11 = (-1) → lp = (-1) := hq_14
    have hx10_0 : rOut (rTake Kd 16 e_4) e_10 (sf e_10) e_7 e_3 e_2 e_9 e_8 := hx10_0
    have hx10_1 : ¬ e_7 = 0 → vlx = nf e_4 ∧ e_11 = rPl sf nf 1 e_4 lp := hx10_1
    have hk2 := hq_12
    have hk2t := hq_13
    have hpl := hq_14
    refine lv_if_ne (tgt := 18) hx hb dX6_readCellLine_13 (by decide) (fun c_15 => ?_) (fun c_15 => ?_)
    · have hy2 := gTkY hk2 c_15
      obtain ⟨mm, hmm, rfl, _⟩ := hy2.2.2
      have hz10 := c_15
      have hw10 := hx10_1 hz10
      have e10 := (rTk_y (rOut_y hx10_0 hz10).1).1
      have enf : nf (t + 1) = nI mm := (congrArg nf hy1.1).symm.trans hw10.1.symm
      have hl : lv_has ls 3 [(0, .ref h0)] := hl
      refine lv_aload_n hx hb dX6_readCellLine_18 rfl (lv_at hl 0 rfl) ?_
      refine va_get (D := D) (ci := 6) (v := .int (nI mm)) (C := RX6) (T := TX6) (N := 12) hx hb hts (fun _ h => List.mem_cons_of_mem _ (List.mem_append_left _ (List.mem_append_left _ (List.mem_append_right _ h)))) hown hK hP 2 rfl rfl 11 (by decide) (hts (.fieldLink RX6 108 "LitmusHall$Reader" "value" "I") (by decide +kernel)) (fun _ h9 => h9) rfl dX6_readCellLine_19 ?_
      refine lv_istore_n (lv' := [(1, .int (nI mm)), (0, .ref h0)]) hx hb dX6_readCellLine_22 rfl hl (by decide) rfl (fun ls hl => ?_)
      refine lv_aload_n hx hb dX6_readCellLine_23 rfl (lv_at hl 1 rfl) ?_
      refine va_get (D := D) (ci := 6) (v := .int (nI e_10)) (C := RX6) (T := TX6) (N := 12) hx hb hts (fun _ h => List.mem_cons_of_mem _ (List.mem_append_left _ (List.mem_append_left _ (List.mem_append_right _ h)))) hown hK hP 2 rfl rfl 8 (by decide) (hts (.fieldLink RX6 45 "LitmusHall$Reader" "at" "I") (by decide +kernel)) (fun _ h9 => h9) rfl dX6_readCellLine_24 ?_
      refine lv_iconst (v := 1) hx hb dX6_readCellLine_27 (by decide) ?_
      refine lv_isub hx hb dX6_readCellLine_28 ?_
      refine gx_top (y := nI (e_10 - 1)) (pk_sub (a := e_10) (b := 1) (by omega)) ?_
      refine lv_istore_n (lv' := [(2, .int (nI (e_10 - 1))), (1, .int (nI mm)), (0, .ref h0)]) hx hb dX6_readCellLine_29 rfl hl (by decide) rfl (fun ls hl => ?_)
      refine lv_aload_n hx hb dX6_readCellLine_30 rfl (lv_at hl 2 rfl) ?_
      refine lv_bipush (v := 19) hx hb dX6_readCellLine_31 (by decide) ?_
      refine gx_goi (wc := [(h0, .inr (6, [.ref d0, .int e_8, .int e_9, .int e_11, .ref k4, .ref k5, .ref k6, v7, .int (nI e_10), .int tl, .int vr, .int (nI mm)])), (k4, .inl (cI, 501, .inl (fun j => nI (Kd j)))), (k5, .inl (cI, 501, .inl sf))]) (wr := [(d0, .inr (4, [w0, w1, .ref e2, w3])), (e2, .inl (cI, 4, .inl cf)), (k6, .inl (cI, 501, .inl nf))]) (va_runV (As := [.int 19]) (rest := []) ⟨hx, hb, hml, hown, hts⟩ (x_take l D cI cB cZ h0 k4 k5 (.ref d0) (.int e_11) (.ref k6) (v7) (.int tl) (.int vr) (.int (nI mm)) e_8 e_9 Kd sf e_10 19 (by omega) (hR.1 _ (by omega)) (by first | decide | omega | exact hR.1 _ (by omega)) _) (cwV 1 hts gP_x_readCellLine__x_take rfl rfl rfl (by decide +kernel) ⟨Nat.le_of_ble_eq_true rfl, Nat.le_of_ble_eq_true rfl⟩) (gx_preV (ci := 6) (q0 := 0) hK gN.nil hP hD [2, 3, 4] rfl rfl rfl rfl) rfl rfl hl.1 rfl (lv_room (Nat.le_of_ble_eq_true rfl)) dX6_readCellLine_33 ⟨Nat.le_of_ble_eq_true rfl, Nat.le_of_ble_eq_true rfl⟩) hP hD hS hA [2, 3, 4] [0, 1, 5] rfl rfl rfl (by decide) (fun r1 w1 H locs hp hP hD hS => ?_)
      obtain ⟨e_16, e_17, e_18, e_19, hq_20, hx33_0, h9, rfl⟩ := hp
      have h9 := h9.symm
      subst h9
      have hq_20 : (e_16 = 0 ∧ e_19 = e_10 ∧ ¬ e_18 = 0) ∨ (e_16 = 1 ∧ e_19 = e_10 + 1 ∧ e_10 < 500 ∧ nI (Kd e_10) = nI 19 ∧ e_18 = e_9) := hq_20
      have hx33_0 : rOut (rTake Kd 19 e_10) e_19 (sf e_19) e_16 e_9 e_8 e_18 e_17 := hx33_0
      have hk3 := hq_20
      have hk3t := gTk0 hk3 (by omega)
      refine lv_if_eq (tgt := 56) hx hb dX6_readCellLine_36 (by decide) (fun c_21 => ?_) (fun c_21 => ?_)
      · refine lv_iconst (v := 0) hx hb dX6_readCellLine_56 (by decide) ?_
        have hP := hP.sub (ws' := [(h0, .inr (6, [.ref d0, .int e_17, .int e_18, .int e_11, .ref k4, .ref k5, .ref k6, v7, .int (nI e_19), .int tl, .int vr, .int (nI mm)])), (k4, .inl (cI, 501, .inl (fun j => nI (Kd j)))), (k5, .inl (cI, 501, .inl sf)), (k6, .inl (cI, 501, .inl nf)), (d0, .inr (4, [w0, w1, .ref e2, w3])), (e2, .inl (cI, 4, .inl cf))]) [3, 4, 5, 2, 0, 1] rfl
        have hD := hD.sub (ws' := [(h0, .inr (6, [.ref d0, .int e_17, .int e_18, .int e_11, .ref k4, .ref k5, .ref k6, v7, .int (nI e_19), .int tl, .int vr, .int (nI mm)])), (k4, .inl (cI, 501, .inl (fun j => nI (Kd j)))), (k5, .inl (cI, 501, .inl sf)), (k6, .inl (cI, 501, .inl nf)), (d0, .inr (4, [w0, w1, .ref e2, w3])), (e2, .inl (cI, 4, .inl cf))]) [3, 4, 5, 2, 0, 1] (by decide) rfl
        exact gx_zret (w' := [(h0, .inr (6, [.ref d0, .int e_17, .int e_18, .int e_11, .ref k4, .ref k5, .ref k6, v7, .int (nI e_19), .int tl, .int vr, .int (nI mm)])), (k4, .inl (cI, 501, .inl (fun j => nI (Kd j)))), (k5, .inl (cI, 501, .inl sf)), (k6, .inl (cI, 501, .inl nf)), (d0, .inr (4, [w0, w1, .ref e2, w3])), (e2, .inl (cI, 4, .inl cf))]) hx hb hr hlk hK hP hD hS (Nat.le_of_ble_eq_true rfl) (Nat.le_of_ble_eq_true rfl) dX6_readCellLine_57 rfl ⟨0, e_17, e_18, e_11, e_19, tl, vr, (nI mm), cf, (Or.inl ⟨rfl, by first | exact gTkN (hk5.imp (fun h => ⟨h.1, h.2.2⟩) id) c_21 | exact gTkN hk4 c_21 | exact gTkN (hk3.imp (fun h => ⟨h.1, h.2.2⟩) id) c_21 | exact gTkN hk2 c_21 | exact gTkN (hk1.imp (fun h => ⟨h.1, h.2.2⟩) id) c_21⟩), (by omega), (by first | exact hpl | exact fun h => h), (by first | exact rOut_0 (rOut_seq (rOut_seq (rOut_seq (rOut_seq hx3_0 hz3 hx10_0) hz10 hx33_0) hz33 hx41_0) hz41 hx50_0) c_21 | exact (rOut_stp (rOut_0 (rOut_seq (rOut_seq (rOut_seq hx3_0 hz3 hx10_0) hz10 hx33_0) hz33 hx41_0) c_21) rfl) | exact (rOut_stp (rOut_stp (rOut_0 (rOut_seq (rOut_seq hx3_0 hz3 hx10_0) hz10 hx33_0) c_21) rfl) rfl) | exact (rOut_stp (rOut_stp (rOut_stp (rOut_0 (rOut_seq hx3_0 hz3 hx10_0) c_21) rfl) rfl) rfl) | exact (rOut_stp (rOut_stp (rOut_stp (rOut_stp hx3_0 c_21) rfl) rfl) rfl)), (fun h => absurd rfl h), rfl, rfl⟩
      · have hy3 := gTkY hk3 c_21
        have hz33 := c_21
        have e33 := (rTk_y (rOut_y hx33_0 hz33).1).1
        refine lv_aload_n hx hb dX6_readCellLine_39 rfl (lv_at hl 2 rfl) ?_
        refine lv_iconst (v := 0) hx hb dX6_readCellLine_40 (by decide) ?_
        refine gx_goi (wc := [(h0, .inr (6, [.ref d0, .int e_17, .int e_18, .int e_11, .ref k4, .ref k5, .ref k6, v7, .int (nI e_19), .int tl, .int vr, .int (nI mm)])), (k4, .inl (cI, 501, .inl (fun j => nI (Kd j)))), (k5, .inl (cI, 501, .inl sf)), (k6, .inl (cI, 501, .inl nf))]) (wr := [(d0, .inr (4, [w0, w1, .ref e2, w3])), (e2, .inl (cI, 4, .inl cf))]) (va_runV (As := [.int 0]) (rest := []) ⟨hx, hb, hml, hown, hts⟩ (x_takeVal0 l D cI cB cZ h0 k4 k5 k6 (.ref d0) (.int e_11) (v7) (.int tl) e_17 e_18 Kd sf nf e_19 (nI mm) vr (by omega) hR _) (cwV 1 hts gP_x_readCellLine__x_takeVal0 rfl rfl rfl (by decide +kernel) ⟨Nat.le_of_ble_eq_true rfl, Nat.le_of_ble_eq_true rfl⟩) (gx_preV (ci := 6) (q0 := 0) hK gN.nil hP hD [3, 4, 5, 2] rfl rfl rfl rfl) rfl rfl hl.1 rfl (lv_room (Nat.le_of_ble_eq_true rfl)) dX6_readCellLine_41 ⟨Nat.le_of_ble_eq_true rfl, Nat.le_of_ble_eq_true rfl⟩) hP hD hS hA [3, 4, 5, 2] [0, 1] rfl rfl rfl (by decide) (fun r1 w1 H locs hp hP hD hS => ?_)
        obtain ⟨e_22, e_23, e_24, e_25, e_26, e_27, hq_28, hq_29, hx41_0, hx41_1, h9, rfl⟩ := hp
        have h9 := h9.symm
        subst h9
        have hq_28 : (e_22 = 0 ∧ ¬ e_24 = 0) ∨ (e_22 = 1 ∧ e_24 = e_18 ∧ e_19 < e_25 ∧ (e_27 = (-1) ∨ ∃ r, r < 3 ∧ e_27 = nI r)) := hq_28
        have hq_29 : e_19 ≤ e_25 ∧ e_25 ≤ 500 := hq_29
        have hx41_0 : rOut (rInt Kd e_19) e_25 (sf e_25) e_22 e_18 e_17 e_24 e_23 := hx41_0
        have hx41_1 : ¬ e_22 = 0 → e_27 = (-1) ∧ e_26 = vInt Kd nf e_19 := hx41_1
        have hk4 := hq_28
        have hk4t := hq_29
        refine lv_if_eq (tgt := 56) hx hb dX6_readCellLine_44 (by decide) (fun c_30 => ?_) (fun c_30 => ?_)
        · refine lv_iconst (v := 0) hx hb dX6_readCellLine_56 (by decide) ?_
          have hP := hP.sub (ws' := [(h0, .inr (6, [.ref d0, .int e_23, .int e_24, .int e_11, .ref k4, .ref k5, .ref k6, v7, .int (nI e_25), .int tl, .int e_27, .int e_26])), (k4, .inl (cI, 501, .inl (fun j => nI (Kd j)))), (k5, .inl (cI, 501, .inl sf)), (k6, .inl (cI, 501, .inl nf)), (d0, .inr (4, [w0, w1, .ref e2, w3])), (e2, .inl (cI, 4, .inl cf))]) [2, 3, 4, 5, 0, 1] rfl
          have hD := hD.sub (ws' := [(h0, .inr (6, [.ref d0, .int e_23, .int e_24, .int e_11, .ref k4, .ref k5, .ref k6, v7, .int (nI e_25), .int tl, .int e_27, .int e_26])), (k4, .inl (cI, 501, .inl (fun j => nI (Kd j)))), (k5, .inl (cI, 501, .inl sf)), (k6, .inl (cI, 501, .inl nf)), (d0, .inr (4, [w0, w1, .ref e2, w3])), (e2, .inl (cI, 4, .inl cf))]) [2, 3, 4, 5, 0, 1] (by decide) rfl
          exact gx_zret (w' := [(h0, .inr (6, [.ref d0, .int e_23, .int e_24, .int e_11, .ref k4, .ref k5, .ref k6, v7, .int (nI e_25), .int tl, .int e_27, .int e_26])), (k4, .inl (cI, 501, .inl (fun j => nI (Kd j)))), (k5, .inl (cI, 501, .inl sf)), (k6, .inl (cI, 501, .inl nf)), (d0, .inr (4, [w0, w1, .ref e2, w3])), (e2, .inl (cI, 4, .inl cf))]) hx hb hr hlk hK hP hD hS (Nat.le_of_ble_eq_true rfl) (Nat.le_of_ble_eq_true rfl) dX6_readCellLine_57 rfl ⟨0, e_23, e_24, e_11, e_25, tl, e_27, e_26, cf, (Or.inl ⟨rfl, by first | exact gTkN (hk5.imp (fun h => ⟨h.1, h.2.2⟩) id) c_30 | exact gTkN hk4 c_30 | exact gTkN (hk3.imp (fun h => ⟨h.1, h.2.2⟩) id) c_30 | exact gTkN hk2 c_30 | exact gTkN (hk1.imp (fun h => ⟨h.1, h.2.2⟩) id) c_30⟩), (by omega), (by first | exact hpl | exact fun h => h), (by first | exact rOut_0 (rOut_seq (rOut_seq (rOut_seq (rOut_seq hx3_0 hz3 hx10_0) hz10 hx33_0) hz33 hx41_0) hz41 hx50_0) c_30 | exact (rOut_stp (rOut_0 (rOut_seq (rOut_seq (rOut_seq hx3_0 hz3 hx10_0) hz10 hx33_0) hz33 hx41_0) c_30) rfl) | exact (rOut_stp (rOut_stp (rOut_0 (rOut_seq (rOut_seq hx3_0 hz3 hx10_0) hz10 hx33_0) c_30) rfl) rfl) | exact (rOut_stp (rOut_stp (rOut_stp (rOut_0 (rOut_seq hx3_0 hz3 hx10_0) c_30) rfl) rfl) rfl) | exact (rOut_stp (rOut_stp (rOut_stp (rOut_stp hx3_0 c_30) rfl) rfl) rfl)), (fun h => absurd rfl h), rfl, rfl⟩
        · have hy4 := gTkY hk4 c_30
          have hz41 := c_30
          have hw41 := hx41_1 hz41
          refine lv_aload_n hx hb dX6_readCellLine_47 rfl (lv_at hl 2 rfl) ?_
          refine lv_bipush (v := 18) hx hb dX6_readCellLine_48 (by decide) ?_
          refine gx_goi (wc := [(h0, .inr (6, [.ref d0, .int e_23, .int e_24, .int e_11, .ref k4, .ref k5, .ref k6, v7, .int (nI e_25), .int tl, .int e_27, .int e_26])), (k4, .inl (cI, 501, .inl (fun j => nI (Kd j)))), (k5, .inl (cI, 501, .inl sf))]) (wr := [(d0, .inr (4, [w0, w1, .ref e2, w3])), (e2, .inl (cI, 4, .inl cf)), (k6, .inl (cI, 501, .inl nf))]) (va_runV (As := [.int 18]) (rest := []) ⟨hx, hb, hml, hown, hts⟩ (x_take l D cI cB cZ h0 k4 k5 (.ref d0) (.int e_11) (.ref k6) (v7) (.int tl) (.int e_27) (.int e_26) e_23 e_24 Kd sf e_25 18 (by omega) (hR.1 _ (by omega)) (by first | decide | omega | exact hR.1 _ (by omega)) _) (cwV 1 hts gP_x_readCellLine__x_take rfl rfl rfl (by decide +kernel) ⟨Nat.le_of_ble_eq_true rfl, Nat.le_of_ble_eq_true rfl⟩) (gx_preV (ci := 6) (q0 := 0) hK gN.nil hP hD [2, 3, 4] rfl rfl rfl rfl) rfl rfl hl.1 rfl (lv_room (Nat.le_of_ble_eq_true rfl)) dX6_readCellLine_50 ⟨Nat.le_of_ble_eq_true rfl, Nat.le_of_ble_eq_true rfl⟩) hP hD hS hA [2, 3, 4] [0, 1, 5] rfl rfl rfl (by decide) (fun r1 w1 H locs hp hP hD hS => ?_)
          obtain ⟨e_31, e_32, e_33, e_34, hq_35, hx50_0, h9, rfl⟩ := hp
          have h9 := h9.symm
          subst h9
          have hq_35 : (e_31 = 0 ∧ e_34 = e_25 ∧ ¬ e_33 = 0) ∨ (e_31 = 1 ∧ e_34 = e_25 + 1 ∧ e_25 < 500 ∧ nI (Kd e_25) = nI 18 ∧ e_33 = e_24) := hq_35
          have hx50_0 : rOut (rTake Kd 18 e_25) e_34 (sf e_34) e_31 e_24 e_23 e_33 e_32 := hx50_0
          have hk5 := hq_35
          have hk5t := gTk0 hk5 (by omega)
          refine lv_if_ne (tgt := 58) hx hb dX6_readCellLine_53 (by decide) (fun c_36 => ?_) (fun c_36 => ?_)
          · have hy5 := gTkY hk5 c_36
            have hz50 := c_36
            have hyy := hy1.1
            refine lv_iload_n hx hb dX6_readCellLine_58 rfl (lv_at hl 1 rfl) ?_
            refine lv_iconst (v := 4) hx hb dX6_readCellLine_59 (by decide) ?_
            refine gy_ge (a := mm) (b := 4) (tgt := 104) hx hb (by omega) (by omega) dX6_readCellLine_60 (by decide) (fun c_37 => ?_) (fun c_37 => ?_)
            · refine lv_iconst (v := 1) hx hb dX6_readCellLine_104 (by decide) ?_
              have hP := hP.sub (ws' := [(h0, .inr (6, [.ref d0, .int e_32, .int e_33, .int e_11, .ref k4, .ref k5, .ref k6, v7, .int (nI e_34), .int tl, .int e_27, .int e_26])), (k4, .inl (cI, 501, .inl (fun j => nI (Kd j)))), (k5, .inl (cI, 501, .inl sf)), (k6, .inl (cI, 501, .inl nf)), (d0, .inr (4, [w0, w1, .ref e2, w3])), (e2, .inl (cI, 4, .inl cf))]) [3, 4, 5, 2, 0, 1] rfl
              have hD := hD.sub (ws' := [(h0, .inr (6, [.ref d0, .int e_32, .int e_33, .int e_11, .ref k4, .ref k5, .ref k6, v7, .int (nI e_34), .int tl, .int e_27, .int e_26])), (k4, .inl (cI, 501, .inl (fun j => nI (Kd j)))), (k5, .inl (cI, 501, .inl sf)), (k6, .inl (cI, 501, .inl nf)), (d0, .inr (4, [w0, w1, .ref e2, w3])), (e2, .inl (cI, 4, .inl cf))]) [3, 4, 5, 2, 0, 1] (by decide) rfl
              exact gx_zret (w' := [(h0, .inr (6, [.ref d0, .int e_32, .int e_33, .int e_11, .ref k4, .ref k5, .ref k6, v7, .int (nI e_34), .int tl, .int e_27, .int e_26])), (k4, .inl (cI, 501, .inl (fun j => nI (Kd j)))), (k5, .inl (cI, 501, .inl sf)), (k6, .inl (cI, 501, .inl nf)), (d0, .inr (4, [w0, w1, .ref e2, w3])), (e2, .inl (cI, 4, .inl cf))]) hx hb hr hlk hK hP hD hS (Nat.le_of_ble_eq_true rfl) (Nat.le_of_ble_eq_true rfl) dX6_readCellLine_105 rfl ⟨1, e_32, e_33, e_11, e_34, tl, e_27, e_26, cf, (Or.inr ⟨rfl, (hy5.2.2.2).trans ((hy4.1).trans ((hy3.2.2.2).trans ((hy2.1).trans hy1.2.2.2))), by omega⟩), (by omega), (by first | exact fun h => absurd h hln | exact hpl), (rOut_1 (rOut_seq (rOut_seq (rOut_seq (rOut_seq hx3_0 hz3 hx10_0) hz10 hx33_0) hz33 hx41_0) hz41 hx50_0) hz50), (fun _ => by first | exact ⟨rCp_1 enf (by omega) hmm hyy hw10.2, rCt_1 enf (by omega) hmm, rCf_1 enf (by omega) hmm⟩ | exact ⟨rCp_n enf (by omega) hyy hw10.2 c_36 (by omega) hx76_0, rCt_0 enf (by omega), rCf_0 enf (by omega) (by omega) hw41.2⟩ | exact ⟨rCp_0 enf (by omega) hyy hw10.2 c_37, rCt_0 enf (by omega), rCf_0 enf (by omega) (by omega) hw41.2⟩), rfl, rfl⟩
            · refine lv_aload_n hx hb dX6_readCellLine_63 rfl (lv_at hl 2 rfl) ?_
              refine va_get (D := D) (ci := 6) (v := .int tl) (C := RX6) (T := TX6) (N := 12) hx hb hts (fun _ h => List.mem_cons_of_mem _ (List.mem_append_left _ (List.mem_append_left _ (List.mem_append_right _ h)))) hown hK hP 3 rfl rfl 9 (by decide) (hts (.fieldLink RX6 48 "LitmusHall$Reader" "told" "I") (by decide +kernel)) (fun _ h9 => h9) rfl dX6_readCellLine_64 ?_
              refine lv_iload_n hx hb dX6_readCellLine_67 rfl (lv_at hl 1 rfl) ?_
              refine lv_ishr hx hb dX6_readCellLine_68 ?_
              refine lv_iconst (v := 1) hx hb dX6_readCellLine_69 (by decide) ?_
              refine lv_iand hx hb dX6_readCellLine_70 ?_
              refine gx_top (pk_and (tl >>> (((nI mm) : Int32) &&& 31)) (m := 1) 1 (by decide +kernel)) ?_
              have hj38 : (tl >>> (((nI mm) : Int32) &&& 31)).toBitVec.toNat % 2 < 2 := Nat.mod_lt _ (by decide)
              refine lv_if_eq (tgt := 79) hx hb dX6_readCellLine_71 (by decide) (fun c_39i => ?_) (fun c_39i => ?_)
              · have c_39 : (tl >>> (((nI mm) : Int32) &&& 31)).toBitVec.toNat % 2 = 0 := (nI_eq (a := (tl >>> (((nI mm) : Int32) &&& 31)).toBitVec.toNat % 2) (b := 0) (by omega) (by decide)).mp c_39i
                refine lv_aload_n hx hb dX6_readCellLine_79 rfl (lv_at hl 2 rfl) ?_
                refine lv_dup hx hb dX6_readCellLine_80 rfl ?_
                refine va_get (D := D) (ci := 6) (v := .int tl) (C := RX6) (T := TX6) (N := 12) hx hb hts (fun _ h => List.mem_cons_of_mem _ (List.mem_append_left _ (List.mem_append_left _ (List.mem_append_right _ h)))) hown hK hP 3 rfl rfl 9 (by decide) (hts (.fieldLink RX6 48 "LitmusHall$Reader" "told" "I") (by decide +kernel)) (fun _ h9 => h9) rfl dX6_readCellLine_81 ?_
                refine lv_iconst (v := 1) hx hb dX6_readCellLine_84 (by decide) ?_
                refine lv_iload_n hx hb dX6_readCellLine_85 rfl (lv_at hl 1 rfl) ?_
                refine lv_ishl hx hb dX6_readCellLine_86 ?_
                refine lv_ior hx hb dX6_readCellLine_87 ?_
                refine va_put (D := D) (ci := 6) (v := .int (tl ||| (1 <<< (((nI mm) : Int32) &&& 31)))) (ty := .int) (C := RX6) (T := TX6) (N := 12) hx hb hts (fun _ h => List.mem_cons_of_mem _ (List.mem_append_left _ (List.mem_append_left _ (List.mem_append_right _ h)))) tyX6 tyX6_ok nmX6 hown hK hP hD hS 3 rfl rfl 9 (by decide) (hts (.fieldLink RX6 48 "LitmusHall$Reader" "told" "I") (by decide +kernel)) (fun _ h9 => h9) rfl (by decide +kernel) rfl rfl (Nat.le_of_ble_eq_true rfl) dX6_readCellLine_88 (fun H locs hP hD hS => ?_)
                have hP : va_P D vwCl [(d0, .inr (4, [w0, w1, .ref e2, w3])), (e2, .inl (cI, 4, .inl cf)), (k6, .inl (cI, 501, .inl nf)), (h0, .inr (6, [.ref d0, .int e_32, .int e_33, .int e_11, .ref k4, .ref k5, .ref k6, v7, .int (nI e_34), .int (tl ||| (1 <<< (((nI mm) : Int32) &&& 31))), .int e_27, .int e_26])), (k4, .inl (cI, 501, .inl (fun j => nI (Kd j)))), (k5, .inl (cI, 501, .inl sf))] H := hP
                have hD : va_D A [(d0, .inr (4, [w0, w1, .ref e2, w3])), (e2, .inl (cI, 4, .inl cf)), (k6, .inl (cI, 501, .inl nf)), (h0, .inr (6, [.ref d0, .int e_32, .int e_33, .int e_11, .ref k4, .ref k5, .ref k6, v7, .int (nI e_34), .int (tl ||| (1 <<< (((nI mm) : Int32) &&& 31))), .int e_27, .int e_26])), (k4, .inl (cI, 501, .inl (fun j => nI (Kd j)))), (k5, .inl (cI, 501, .inl sf))] := hD
                refine lv_aload_n hx hb dX6_readCellLine_91 rfl (lv_at hl 2 rfl) ?_
                refine va_get (D := D) (ci := 6) (v := .ref d0) (C := RX6) (T := TX6) (N := 12) hx hb hts (fun _ h => List.mem_cons_of_mem _ (List.mem_append_left _ (List.mem_append_left _ (List.mem_append_right _ h)))) hown hK hP 3 rfl rfl 0 (by decide) (hts (.fieldLink RX6 12 "LitmusHall$Reader" "draft" "LLitmusHall$Program;") (by decide +kernel)) (fun _ h9 => h9) rfl dX6_readCellLine_92 ?_
                refine va_get (D := D) (ci := 4) (v := .ref e2) (C := RX4) (T := TX4) (N := 4) hx hb hts (fun _ h => List.mem_cons_of_mem _ (List.mem_append_left _ (List.mem_append_right _ h))) hown hK hP 0 rfl rfl 2 (by decide) (hts (.fieldLink RX6 119 "LitmusHall$Program" "cells" "[I") (by decide +kernel)) (fun _ h9 => h9) rfl dX6_readCellLine_95 ?_
                refine lv_iload_n hx hb dX6_readCellLine_98 rfl (lv_at hl 1 rfl) ?_
                refine lv_aload_n hx hb dX6_readCellLine_99 rfl (lv_at hl 2 rfl) ?_
                refine va_get (D := D) (ci := 6) (v := .int e_26) (C := RX6) (T := TX6) (N := 12) hx hb hts (fun _ h => List.mem_cons_of_mem _ (List.mem_append_left _ (List.mem_append_left _ (List.mem_append_right _ h)))) hown hK hP 3 rfl rfl 11 (by decide) (hts (.fieldLink RX6 108 "LitmusHall$Reader" "value" "I") (by decide +kernel)) (fun _ h9 => h9) rfl dX6_readCellLine_100 ?_
                refine gy_ist (i := mm) hx hb hK hP hD hS 1 rfl (by omega) (by omega) dX6_readCellLine_103 (fun H locs hP hD hS => ?_)
                have hP : va_P D vwCl [(d0, .inr (4, [w0, w1, .ref e2, w3])), (e2, .inl (cI, 4, .inl (upd cf mm e_26))), (k6, .inl (cI, 501, .inl nf)), (h0, .inr (6, [.ref d0, .int e_32, .int e_33, .int e_11, .ref k4, .ref k5, .ref k6, v7, .int (nI e_34), .int (tl ||| (1 <<< (((nI mm) : Int32) &&& 31))), .int e_27, .int e_26])), (k4, .inl (cI, 501, .inl (fun j => nI (Kd j)))), (k5, .inl (cI, 501, .inl sf))] H := hP
                have hD : va_D A [(d0, .inr (4, [w0, w1, .ref e2, w3])), (e2, .inl (cI, 4, .inl (upd cf mm e_26))), (k6, .inl (cI, 501, .inl nf)), (h0, .inr (6, [.ref d0, .int e_32, .int e_33, .int e_11, .ref k4, .ref k5, .ref k6, v7, .int (nI e_34), .int (tl ||| (1 <<< (((nI mm) : Int32) &&& 31))), .int e_27, .int e_26])), (k4, .inl (cI, 501, .inl (fun j => nI (Kd j)))), (k5, .inl (cI, 501, .inl sf))] := hD
                refine lv_iconst (v := 1) hx hb dX6_readCellLine_104 (by decide) ?_
                have hP := hP.sub (ws' := [(h0, .inr (6, [.ref d0, .int e_32, .int e_33, .int e_11, .ref k4, .ref k5, .ref k6, v7, .int (nI e_34), .int (tl ||| (1 <<< (((nI mm) : Int32) &&& 31))), .int e_27, .int e_26])), (k4, .inl (cI, 501, .inl (fun j => nI (Kd j)))), (k5, .inl (cI, 501, .inl sf)), (k6, .inl (cI, 501, .inl nf)), (d0, .inr (4, [w0, w1, .ref e2, w3])), (e2, .inl (cI, 4, .inl (upd cf mm e_26)))]) [3, 4, 5, 2, 0, 1] rfl
                have hD := hD.sub (ws' := [(h0, .inr (6, [.ref d0, .int e_32, .int e_33, .int e_11, .ref k4, .ref k5, .ref k6, v7, .int (nI e_34), .int (tl ||| (1 <<< (((nI mm) : Int32) &&& 31))), .int e_27, .int e_26])), (k4, .inl (cI, 501, .inl (fun j => nI (Kd j)))), (k5, .inl (cI, 501, .inl sf)), (k6, .inl (cI, 501, .inl nf)), (d0, .inr (4, [w0, w1, .ref e2, w3])), (e2, .inl (cI, 4, .inl (upd cf mm e_26)))]) [3, 4, 5, 2, 0, 1] (by decide) rfl
                exact gx_zret (w' := [(h0, .inr (6, [.ref d0, .int e_32, .int e_33, .int e_11, .ref k4, .ref k5, .ref k6, v7, .int (nI e_34), .int (tl ||| (1 <<< (((nI mm) : Int32) &&& 31))), .int e_27, .int e_26])), (k4, .inl (cI, 501, .inl (fun j => nI (Kd j)))), (k5, .inl (cI, 501, .inl sf)), (k6, .inl (cI, 501, .inl nf)), (d0, .inr (4, [w0, w1, .ref e2, w3])), (e2, .inl (cI, 4, .inl (upd cf mm e_26)))]) hx hb hr hlk hK hP hD hS (Nat.le_of_ble_eq_true rfl) (Nat.le_of_ble_eq_true rfl) dX6_readCellLine_105 rfl ⟨1, e_32, e_33, e_11, e_34, (tl ||| (1 <<< (((nI mm) : Int32) &&& 31))), e_27, e_26, (upd cf mm e_26), (Or.inr ⟨rfl, (hy5.2.2.2).trans ((hy4.1).trans ((hy3.2.2.2).trans ((hy2.1).trans hy1.2.2.2))), by omega⟩), (by omega), (by first | exact fun h => absurd h hln | exact hpl), (rOut_1 (rOut_seq (rOut_seq (rOut_seq (rOut_seq hx3_0 hz3 hx10_0) hz10 hx33_0) hz33 hx41_0) hz41 hx50_0) hz50), (fun _ => by first | exact ⟨rCp_1 enf (by omega) hmm hyy hw10.2, rCt_1 enf (by omega) hmm, rCf_1 enf (by omega) hmm⟩ | exact ⟨rCp_n enf (by omega) hyy hw10.2 c_37 (by omega) hx76_0, rCt_0 enf (by omega), rCf_0 enf (by omega) (by omega) hw41.2⟩ | exact ⟨rCp_0 enf (by omega) hyy hw10.2 c_39, rCt_0 enf (by omega), rCf_0 enf (by omega) (by omega) hw41.2⟩), rfl, rfl⟩
              · have c_39 : (tl >>> (((nI mm) : Int32) &&& 31)).toBitVec.toNat % 2 ≠ 0 := fun q9 => c_39i ((nI_eq (a := (tl >>> (((nI mm) : Int32) &&& 31)).toBitVec.toNat % 2) (b := 0) (by omega) (by decide)).mpr q9)
                refine lv_aload_n hx hb dX6_readCellLine_74 rfl (lv_at hl 2 rfl) ?_
                refine lv_iload_n hx hb dX6_readCellLine_75 rfl (lv_at hl 0 rfl) ?_
                refine gx_gov (wc := [(h0, .inr (6, [.ref d0, .int e_32, .int e_33, .int e_11, .ref k4, .ref k5, .ref k6, v7, .int (nI e_34), .int tl, .int e_27, .int e_26])), (k5, .inl (cI, 501, .inl sf))]) (wr := [(d0, .inr (4, [w0, w1, .ref e2, w3])), (e2, .inl (cI, 4, .inl cf)), (k6, .inl (cI, 501, .inl nf)), (k4, .inl (cI, 501, .inl (fun j => nI (Kd j))))]) (va_runV (As := [.int (nI (e_10 - 1))]) (rest := []) ⟨hx, hb, hml, hown, hts⟩ (x_noteLate l D cI cB cZ h0 k5 (.ref d0) (.int e_32) (.int e_33) (.ref k4) (.ref k6) (v7) (.int (nI e_34)) (.int tl) (.int e_27) (.int e_26) e_11 sf (e_10 - 1) (by omega) (hR.2.2 _ (by omega)) _) (cwV 1 hts gP_x_readCellLine__x_noteLate rfl rfl rfl (by decide +kernel) ⟨Nat.le_of_ble_eq_true rfl, Nat.le_of_ble_eq_true rfl⟩) (gx_preV (ci := 6) (q0 := 0) hK gN.nil hP hD [3, 5] rfl rfl rfl rfl) rfl rfl hl.1 rfl (lv_room (Nat.le_of_ble_eq_true rfl)) dX6_readCellLine_76 ⟨Nat.le_of_ble_eq_true rfl, Nat.le_of_ble_eq_true rfl⟩) hP hD hS hA [3, 5] [0, 1, 2, 4] rfl rfl rfl (by decide) (fun w1 H locs hp hP hD hS => ?_)
                obtain ⟨e_40, hq_41, hx76_0, rfl⟩ := hp
                have hq_41 : ¬ e_40 = (-1) := hq_41
                have hx76_0 : e_40 = rNote e_11 (sf (e_10 - 1)) := hx76_0
                have hln := hq_41
                refine lv_aload_n hx hb dX6_readCellLine_79 rfl (lv_at hl 2 rfl) ?_
                refine lv_dup hx hb dX6_readCellLine_80 rfl ?_
                refine va_get (D := D) (ci := 6) (v := .int tl) (C := RX6) (T := TX6) (N := 12) hx hb hts (fun _ h => List.mem_cons_of_mem _ (List.mem_append_left _ (List.mem_append_left _ (List.mem_append_right _ h)))) hown hK hP 4 rfl rfl 9 (by decide) (hts (.fieldLink RX6 48 "LitmusHall$Reader" "told" "I") (by decide +kernel)) (fun _ h9 => h9) rfl dX6_readCellLine_81 ?_
                refine lv_iconst (v := 1) hx hb dX6_readCellLine_84 (by decide) ?_
                refine lv_iload_n hx hb dX6_readCellLine_85 rfl (lv_at hl 1 rfl) ?_
                refine lv_ishl hx hb dX6_readCellLine_86 ?_
                refine lv_ior hx hb dX6_readCellLine_87 ?_
                refine va_put (D := D) (ci := 6) (v := .int (tl ||| (1 <<< (((nI mm) : Int32) &&& 31)))) (ty := .int) (C := RX6) (T := TX6) (N := 12) hx hb hts (fun _ h => List.mem_cons_of_mem _ (List.mem_append_left _ (List.mem_append_left _ (List.mem_append_right _ h)))) tyX6 tyX6_ok nmX6 hown hK hP hD hS 4 rfl rfl 9 (by decide) (hts (.fieldLink RX6 48 "LitmusHall$Reader" "told" "I") (by decide +kernel)) (fun _ h9 => h9) rfl (by decide +kernel) rfl rfl (Nat.le_of_ble_eq_true rfl) dX6_readCellLine_88 (fun H locs hP hD hS => ?_)
                have hP : va_P D vwCl [(d0, .inr (4, [w0, w1, .ref e2, w3])), (e2, .inl (cI, 4, .inl cf)), (k6, .inl (cI, 501, .inl nf)), (k4, .inl (cI, 501, .inl (fun j => nI (Kd j)))), (h0, .inr (6, [.ref d0, .int e_32, .int e_33, .int e_40, .ref k4, .ref k5, .ref k6, v7, .int (nI e_34), .int (tl ||| (1 <<< (((nI mm) : Int32) &&& 31))), .int e_27, .int e_26])), (k5, .inl (cI, 501, .inl sf))] H := hP
                have hD : va_D A [(d0, .inr (4, [w0, w1, .ref e2, w3])), (e2, .inl (cI, 4, .inl cf)), (k6, .inl (cI, 501, .inl nf)), (k4, .inl (cI, 501, .inl (fun j => nI (Kd j)))), (h0, .inr (6, [.ref d0, .int e_32, .int e_33, .int e_40, .ref k4, .ref k5, .ref k6, v7, .int (nI e_34), .int (tl ||| (1 <<< (((nI mm) : Int32) &&& 31))), .int e_27, .int e_26])), (k5, .inl (cI, 501, .inl sf))] := hD
                refine lv_aload_n hx hb dX6_readCellLine_91 rfl (lv_at hl 2 rfl) ?_
                refine va_get (D := D) (ci := 6) (v := .ref d0) (C := RX6) (T := TX6) (N := 12) hx hb hts (fun _ h => List.mem_cons_of_mem _ (List.mem_append_left _ (List.mem_append_left _ (List.mem_append_right _ h)))) hown hK hP 4 rfl rfl 0 (by decide) (hts (.fieldLink RX6 12 "LitmusHall$Reader" "draft" "LLitmusHall$Program;") (by decide +kernel)) (fun _ h9 => h9) rfl dX6_readCellLine_92 ?_
                refine va_get (D := D) (ci := 4) (v := .ref e2) (C := RX4) (T := TX4) (N := 4) hx hb hts (fun _ h => List.mem_cons_of_mem _ (List.mem_append_left _ (List.mem_append_right _ h))) hown hK hP 0 rfl rfl 2 (by decide) (hts (.fieldLink RX6 119 "LitmusHall$Program" "cells" "[I") (by decide +kernel)) (fun _ h9 => h9) rfl dX6_readCellLine_95 ?_
                refine lv_iload_n hx hb dX6_readCellLine_98 rfl (lv_at hl 1 rfl) ?_
                refine lv_aload_n hx hb dX6_readCellLine_99 rfl (lv_at hl 2 rfl) ?_
                refine va_get (D := D) (ci := 6) (v := .int e_26) (C := RX6) (T := TX6) (N := 12) hx hb hts (fun _ h => List.mem_cons_of_mem _ (List.mem_append_left _ (List.mem_append_left _ (List.mem_append_right _ h)))) hown hK hP 4 rfl rfl 11 (by decide) (hts (.fieldLink RX6 108 "LitmusHall$Reader" "value" "I") (by decide +kernel)) (fun _ h9 => h9) rfl dX6_readCellLine_100 ?_
                refine gy_ist (i := mm) hx hb hK hP hD hS 1 rfl (by omega) (by omega) dX6_readCellLine_103 (fun H locs hP hD hS => ?_)
                have hP : va_P D vwCl [(d0, .inr (4, [w0, w1, .ref e2, w3])), (e2, .inl (cI, 4, .inl (upd cf mm e_26))), (k6, .inl (cI, 501, .inl nf)), (k4, .inl (cI, 501, .inl (fun j => nI (Kd j)))), (h0, .inr (6, [.ref d0, .int e_32, .int e_33, .int e_40, .ref k4, .ref k5, .ref k6, v7, .int (nI e_34), .int (tl ||| (1 <<< (((nI mm) : Int32) &&& 31))), .int e_27, .int e_26])), (k5, .inl (cI, 501, .inl sf))] H := hP
                have hD : va_D A [(d0, .inr (4, [w0, w1, .ref e2, w3])), (e2, .inl (cI, 4, .inl (upd cf mm e_26))), (k6, .inl (cI, 501, .inl nf)), (k4, .inl (cI, 501, .inl (fun j => nI (Kd j)))), (h0, .inr (6, [.ref d0, .int e_32, .int e_33, .int e_40, .ref k4, .ref k5, .ref k6, v7, .int (nI e_34), .int (tl ||| (1 <<< (((nI mm) : Int32) &&& 31))), .int e_27, .int e_26])), (k5, .inl (cI, 501, .inl sf))] := hD
                refine lv_iconst (v := 1) hx hb dX6_readCellLine_104 (by decide) ?_
                have hP := hP.sub (ws' := [(h0, .inr (6, [.ref d0, .int e_32, .int e_33, .int e_40, .ref k4, .ref k5, .ref k6, v7, .int (nI e_34), .int (tl ||| (1 <<< (((nI mm) : Int32) &&& 31))), .int e_27, .int e_26])), (k4, .inl (cI, 501, .inl (fun j => nI (Kd j)))), (k5, .inl (cI, 501, .inl sf)), (k6, .inl (cI, 501, .inl nf)), (d0, .inr (4, [w0, w1, .ref e2, w3])), (e2, .inl (cI, 4, .inl (upd cf mm e_26)))]) [4, 3, 5, 2, 0, 1] rfl
                have hD := hD.sub (ws' := [(h0, .inr (6, [.ref d0, .int e_32, .int e_33, .int e_40, .ref k4, .ref k5, .ref k6, v7, .int (nI e_34), .int (tl ||| (1 <<< (((nI mm) : Int32) &&& 31))), .int e_27, .int e_26])), (k4, .inl (cI, 501, .inl (fun j => nI (Kd j)))), (k5, .inl (cI, 501, .inl sf)), (k6, .inl (cI, 501, .inl nf)), (d0, .inr (4, [w0, w1, .ref e2, w3])), (e2, .inl (cI, 4, .inl (upd cf mm e_26)))]) [4, 3, 5, 2, 0, 1] (by decide) rfl
                exact gx_zret (w' := [(h0, .inr (6, [.ref d0, .int e_32, .int e_33, .int e_40, .ref k4, .ref k5, .ref k6, v7, .int (nI e_34), .int (tl ||| (1 <<< (((nI mm) : Int32) &&& 31))), .int e_27, .int e_26])), (k4, .inl (cI, 501, .inl (fun j => nI (Kd j)))), (k5, .inl (cI, 501, .inl sf)), (k6, .inl (cI, 501, .inl nf)), (d0, .inr (4, [w0, w1, .ref e2, w3])), (e2, .inl (cI, 4, .inl (upd cf mm e_26)))]) hx hb hr hlk hK hP hD hS (Nat.le_of_ble_eq_true rfl) (Nat.le_of_ble_eq_true rfl) dX6_readCellLine_105 rfl ⟨1, e_32, e_33, e_40, e_34, (tl ||| (1 <<< (((nI mm) : Int32) &&& 31))), e_27, e_26, (upd cf mm e_26), (Or.inr ⟨rfl, (hy5.2.2.2).trans ((hy4.1).trans ((hy3.2.2.2).trans ((hy2.1).trans hy1.2.2.2))), by omega⟩), (by omega), (by first | exact fun h => absurd h hln | exact hpl), (rOut_1 (rOut_seq (rOut_seq (rOut_seq (rOut_seq hx3_0 hz3 hx10_0) hz10 hx33_0) hz33 hx41_0) hz41 hx50_0) hz50), (fun _ => by first | exact ⟨rCp_1 enf (by omega) hmm hyy hw10.2, rCt_1 enf (by omega) hmm, rCf_1 enf (by omega) hmm⟩ | exact ⟨rCp_n enf (by omega) hyy hw10.2 c_39 (by omega) hx76_0, rCt_0 enf (by omega), rCf_0 enf (by omega) (by omega) hw41.2⟩ | exact ⟨rCp_0 enf (by omega) hyy hw10.2 hq_41, rCt_0 enf (by omega), rCf_0 enf (by omega) (by omega) hw41.2⟩), rfl, rfl⟩
          · refine lv_iconst (v := 0) hx hb dX6_readCellLine_56 (by decide) ?_
            have hP := hP.sub (ws' := [(h0, .inr (6, [.ref d0, .int e_32, .int e_33, .int e_11, .ref k4, .ref k5, .ref k6, v7, .int (nI e_34), .int tl, .int e_27, .int e_26])), (k4, .inl (cI, 501, .inl (fun j => nI (Kd j)))), (k5, .inl (cI, 501, .inl sf)), (k6, .inl (cI, 501, .inl nf)), (d0, .inr (4, [w0, w1, .ref e2, w3])), (e2, .inl (cI, 4, .inl cf))]) [3, 4, 5, 2, 0, 1] rfl
            have hD := hD.sub (ws' := [(h0, .inr (6, [.ref d0, .int e_32, .int e_33, .int e_11, .ref k4, .ref k5, .ref k6, v7, .int (nI e_34), .int tl, .int e_27, .int e_26])), (k4, .inl (cI, 501, .inl (fun j => nI (Kd j)))), (k5, .inl (cI, 501, .inl sf)), (k6, .inl (cI, 501, .inl nf)), (d0, .inr (4, [w0, w1, .ref e2, w3])), (e2, .inl (cI, 4, .inl cf))]) [3, 4, 5, 2, 0, 1] (by decide) rfl
            exact gx_zret (w' := [(h0, .inr (6, [.ref d0, .int e_32, .int e_33, .int e_11, .ref k4, .ref k5, .ref k6, v7, .int (nI e_34), .int tl, .int e_27, .int e_26])), (k4, .inl (cI, 501, .inl (fun j => nI (Kd j)))), (k5, .inl (cI, 501, .inl sf)), (k6, .inl (cI, 501, .inl nf)), (d0, .inr (4, [w0, w1, .ref e2, w3])), (e2, .inl (cI, 4, .inl cf))]) hx hb hr hlk hK hP hD hS (Nat.le_of_ble_eq_true rfl) (Nat.le_of_ble_eq_true rfl) dX6_readCellLine_57 rfl ⟨0, e_32, e_33, e_11, e_34, tl, e_27, e_26, cf, (Or.inl ⟨rfl, by first | exact gTkN (hk5.imp (fun h => ⟨h.1, h.2.2⟩) id) c_36 | exact gTkN hk4 c_36 | exact gTkN (hk3.imp (fun h => ⟨h.1, h.2.2⟩) id) c_36 | exact gTkN hk2 c_36 | exact gTkN (hk1.imp (fun h => ⟨h.1, h.2.2⟩) id) c_36⟩), (by omega), (by first | exact hpl | exact fun h => h), (by first | exact rOut_0 (rOut_seq (rOut_seq (rOut_seq (rOut_seq hx3_0 hz3 hx10_0) hz10 hx33_0) hz33 hx41_0) hz41 hx50_0) c_36 | exact (rOut_stp (rOut_0 (rOut_seq (rOut_seq (rOut_seq hx3_0 hz3 hx10_0) hz10 hx33_0) hz33 hx41_0) c_36) rfl) | exact (rOut_stp (rOut_stp (rOut_0 (rOut_seq (rOut_seq hx3_0 hz3 hx10_0) hz10 hx33_0) c_36) rfl) rfl) | exact (rOut_stp (rOut_stp (rOut_stp (rOut_0 (rOut_seq hx3_0 hz3 hx10_0) c_36) rfl) rfl) rfl) | exact (rOut_stp (rOut_stp (rOut_stp (rOut_stp hx3_0 c_36) rfl) rfl) rfl)), (fun h => absurd rfl h), rfl, rfl⟩
    · refine lv_iconst (v := 0) hx hb dX6_readCellLine_16 (by decide) ?_
      have hP := hP.sub (ws' := [(h0, .inr (6, [.ref d0, .int e_8, .int e_9, .int e_11, .ref k4, .ref k5, .ref k6, v7, .int (nI e_10), .int tl, .int vr, .int vlx])), (k4, .inl (cI, 501, .inl (fun j => nI (Kd j)))), (k5, .inl (cI, 501, .inl sf)), (k6, .inl (cI, 501, .inl nf)), (d0, .inr (4, [w0, w1, .ref e2, w3])), (e2, .inl (cI, 4, .inl cf))]) [2, 3, 4, 5, 0, 1] rfl
      have hD := hD.sub (ws' := [(h0, .inr (6, [.ref d0, .int e_8, .int e_9, .int e_11, .ref k4, .ref k5, .ref k6, v7, .int (nI e_10), .int tl, .int vr, .int vlx])), (k4, .inl (cI, 501, .inl (fun j => nI (Kd j)))), (k5, .inl (cI, 501, .inl sf)), (k6, .inl (cI, 501, .inl nf)), (d0, .inr (4, [w0, w1, .ref e2, w3])), (e2, .inl (cI, 4, .inl cf))]) [2, 3, 4, 5, 0, 1] (by decide) rfl
      exact gx_zret (w' := [(h0, .inr (6, [.ref d0, .int e_8, .int e_9, .int e_11, .ref k4, .ref k5, .ref k6, v7, .int (nI e_10), .int tl, .int vr, .int vlx])), (k4, .inl (cI, 501, .inl (fun j => nI (Kd j)))), (k5, .inl (cI, 501, .inl sf)), (k6, .inl (cI, 501, .inl nf)), (d0, .inr (4, [w0, w1, .ref e2, w3])), (e2, .inl (cI, 4, .inl cf))]) hx hb hr hlk hK hP hD hS (Nat.le_of_ble_eq_true rfl) (Nat.le_of_ble_eq_true rfl) dX6_readCellLine_17 rfl ⟨0, e_8, e_9, e_11, e_10, tl, vr, vlx, cf, (Or.inl ⟨rfl, by first | exact gTkN (hk5.imp (fun h => ⟨h.1, h.2.2⟩) id) c_15 | exact gTkN hk4 c_15 | exact gTkN (hk3.imp (fun h => ⟨h.1, h.2.2⟩) id) c_15 | exact gTkN hk2 c_15 | exact gTkN (hk1.imp (fun h => ⟨h.1, h.2.2⟩) id) c_15⟩), (by omega), (by first | exact hpl | exact fun h => h), (by first | exact rOut_0 (rOut_seq (rOut_seq (rOut_seq (rOut_seq hx3_0 hz3 hx10_0) hz10 hx33_0) hz33 hx41_0) hz41 hx50_0) c_15 | exact (rOut_stp (rOut_0 (rOut_seq (rOut_seq (rOut_seq hx3_0 hz3 hx10_0) hz10 hx33_0) hz33 hx41_0) c_15) rfl) | exact (rOut_stp (rOut_stp (rOut_0 (rOut_seq (rOut_seq hx3_0 hz3 hx10_0) hz10 hx33_0) c_15) rfl) rfl) | exact (rOut_stp (rOut_stp (rOut_stp (rOut_0 (rOut_seq hx3_0 hz3 hx10_0) c_15) rfl) rfl) rfl) | exact (rOut_stp (rOut_stp (rOut_stp (rOut_stp hx3_0 c_15) rfl) rfl) rfl)), (fun h => absurd rfl h), rfl, rfl⟩
def wsP_x_readCells : List Cond := .code yX6_readCells cX6_readCells 2 (some .boolean) :: (([.fieldLink RX6 22 "LitmusHall$Reader" "kinds" "[I", .fieldLink RX6 45 "LitmusHall$Reader" "at" "I", .methodLink RX6 99 yX6_readCellLine, .instanceMethod yX6_readCellLine, .selects RX6 yX6_readCellLine yX6_readCellLine, .initialized RX6] ++ wsX60) ++ (wsP_x_readCellLine ++ []))
theorem gW_x_readCells : wsP_x_readCells.all goodWord = true := by unfold wsP_x_readCells; exact gw_mk (by decide +kernel) (gw_app gW_x_readCellLine rfl)
set_option maxRecDepth 20000 in
theorem gP_x_readCells__x_readCellLine : GoodIn wsP_x_readCells (wsV RX6 99 RX6 yX6_readCellLine wsP_x_readCellLine) := gw_in (pre := [.methodLink RX6 99 yX6_readCellLine, .instanceMethod yX6_readCellLine, .selects RX6 yX6_readCellLine yX6_readCellLine, .initialized RX6]) (by decide +kernel) (fun _ h => List.mem_cons_of_mem _ (List.mem_append_right _ (List.mem_append_left _ h))) gW_x_readCellLine
set_option maxHeartbeats 4000000 in
set_option maxRecDepth 100000 in
theorem x_readCells (l : Launch) (D : va_G) (cI cB cZ : ClassId) (h0 : Nat) (d0 : Nat) (e2 : Nat) (k4 : Nat) (k5 : Nat) (k6 : Nat) (v7 : Value) (w0 : Value) (w1 : Value) (w3 : Value) (Kd : Nat → Nat) (sf : Nat → Int32) (nf : Nat → Int32) (pv : Int32) (fv : Int32) (lp : Int32) (t : Nat) (tl : Int32) (vr : Int32) (vl : Int32) (cf : Nat → Int32) (ht : t ≤ 500) (hR : gRdI Kd nf sf) : gMi l yX6_readCells wsP_x_readCells ({ frames := 4, cells := 0, slots := 0, locals := 86 }) D cI cB cZ [] [.ref h0] [(h0, .inr (6, [.ref d0, .int pv, .int fv, .int lp, .ref k4, .ref k5, .ref k6, v7, .int (nI t), .int tl, .int vr, .int vl])), (k4, .inl (cI, 501, .inl (fun j => nI (Kd j)))), (k5, .inl (cI, 501, .inl sf)), (k6, .inl (cI, 501, .inl nf)), (d0, .inr (4, [w0, w1, .ref e2, w3])), (e2, .inl (cI, 4, .inl cf))] (fun r9 w9 => ∃ z : Int32, ∃ pv9 : Int32, ∃ fv9 : Int32, ∃ lp9 : Int32, ∃ t9 : Nat, ∃ tl9 : Int32, ∃ vr9 : Int32, ∃ vl9 : Int32, ∃ cf9 : Nat → Int32, ((z = 0 ∧ ¬ fv9 = 0) ∨ (z = 1 ∧ fv9 = fv)) ∧ (t ≤ t9 ∧ t9 ≤ 500) ∧ (lp9 = (-1) → lp = (-1)) ∧ (rOut ((rCs Kd sf nf 501 t lp tl cf).1) t9 (sf t9) z fv pv fv9 pv9) ∧ (¬ z = 0 → lp9 = (rCs Kd sf nf 501 t lp tl cf).2.1 ∧ cf9 = (rCs Kd sf nf 501 t lp tl cf).2.2) ∧ r9 = z ∧ w9 = [(h0, .inr (6, [.ref d0, .int pv9, .int fv9, .int lp9, .ref k4, .ref k5, .ref k6, v7, .int (nI t9), .int tl9, .int vr9, .int vl9])), (k4, .inl (cI, 501, .inl (fun j => nI (Kd j)))), (k5, .inl (cI, 501, .inl sf)), (k6, .inl (cI, 501, .inl nf)), (d0, .inr (4, [w0, w1, .ref e2, w3])), (e2, .inl (cI, 4, .inl cf9))]) := by
  refine gMi.of (cc := cX6_readCells) (maxL := 2) (ret := (some .boolean)) (by decide) rfl (Nat.le_of_ble_eq_true rfl) (fun p e s m below meth c A ls hx hb hr hlk hml hts hown hin hA hP hK hD hS hN hl => ?_)
  have hown : s.vm.findClass RX6 = some m.cls := hown
  have hl : lv_has ls 2 [(0, .ref h0)] := hl
  refine lv_iconst (v := 0) hx hb dX6_readCells_0 (by decide) ?_
  refine lv_istore_n (lv' := [(1, .int 0), (0, .ref h0)]) hx hb dX6_readCells_1 rfl hl (by decide) rfl (fun ls hl => ?_)
  refine gy_loop0 (I := fun (x9 : Nat × Int32 × Int32 × Int32 × Nat × Int32 × Int32 × Int32 × (Nat → Int32)) H locs ls => (x9.1 ≤ 501) ∧ (t ≤ x9.2.2.2.2.1 ∧ x9.2.2.2.2.1 ≤ 500) ∧ (x9.2.2.2.1 = (-1) → lp = (-1)) ∧ (x9.2.2.1 = fv) ∧ (rCs Kd sf nf (501 - x9.1) x9.2.2.2.2.1 x9.2.2.2.1 x9.2.2.2.2.2.1 x9.2.2.2.2.2.2.2.2 = rCs Kd sf nf 501 t lp tl cf) ∧ (x9.1 ≤ x9.2.2.2.2.1) ∧ (x9.2.1 = pv) ∧ va_P D vwCl [(h0, .inr (6, [.ref d0, .int x9.2.1, .int x9.2.2.1, .int x9.2.2.2.1, .ref k4, .ref k5, .ref k6, v7, .int (nI x9.2.2.2.2.1), .int x9.2.2.2.2.2.1, .int x9.2.2.2.2.2.2.1, .int x9.2.2.2.2.2.2.2.1])), (k4, .inl (cI, 501, .inl (fun j => nI (Kd j)))), (k5, .inl (cI, 501, .inl sf)), (k6, .inl (cI, 501, .inl nf)), (d0, .inr (4, [w0, w1, .ref e2, w3])), (e2, .inl (cI, 4, .inl x9.2.2.2.2.2.2.2.2))] H ∧ va_D A [(h0, .inr (6, [.ref d0, .int x9.2.1, .int x9.2.2.1, .int x9.2.2.2.1, .ref k4, .ref k5, .ref k6, v7, .int (nI x9.2.2.2.2.1), .int x9.2.2.2.2.2.1, .int x9.2.2.2.2.2.2.1, .int x9.2.2.2.2.2.2.2.1])), (k4, .inl (cI, 501, .inl (fun j => nI (Kd j)))), (k5, .inl (cI, 501, .inl sf)), (k6, .inl (cI, 501, .inl nf)), (d0, .inr (4, [w0, w1, .ref e2, w3])), (e2, .inl (cI, 4, .inl x9.2.2.2.2.2.2.2.2))] ∧ va_S A s.heap H locs ∧ lv_has ls 2 [(1, .int (nI x9.1)), (0, .ref h0)]) (μ := fun (x9 : Nat × Int32 × Int32 × Int32 × Nat × Int32 × Int32 × Int32 × (Nat → Int32)) => 501 - x9.1) (fun x9 H locs ls hI ih2 => ?_) (0, pv, fv, lp, t, tl, vr, vl, cf) ⟨(by show 0 ≤ 501; exact Nat.le_of_ble_eq_true rfl), (by show t ≤ t ∧ t ≤ 500; omega), (fun h => h), rfl, rfl, (by show 0 ≤ t; exact Nat.zero_le _), rfl, hP, hD, hS, lv_sub hl [0, 1] rfl⟩
  obtain ⟨n, pv1, fv1, lp1, t1, tl1, vr1, vl1, cf1⟩ := x9
  obtain ⟨hi2_0, hi2_1, hi2_2, hi2_3, hi2_4, hi2_5, hi2_6, hP, hD, hS, hl⟩ := hI
  have hi2_0 : n ≤ 501 := hi2_0
  have hi2_1 : t ≤ t1 ∧ t1 ≤ 500 := hi2_1
  have hi2_2 : lp1 = (-1) → lp = (-1) := hi2_2
  have hi2_3 : fv1 = fv := hi2_3
  have hi2_4 : rCs Kd sf nf (501 - n) t1 lp1 tl1 cf1 = rCs Kd sf nf 501 t lp tl cf := hi2_4
  have hi2_5 : n ≤ t1 := hi2_5
  have hi2_6 : pv1 = pv := hi2_6
  have hP : va_P D vwCl [(h0, .inr (6, [.ref d0, .int pv1, .int fv1, .int lp1, .ref k4, .ref k5, .ref k6, v7, .int (nI t1), .int tl1, .int vr1, .int vl1])), (k4, .inl (cI, 501, .inl (fun j => nI (Kd j)))), (k5, .inl (cI, 501, .inl sf)), (k6, .inl (cI, 501, .inl nf)), (d0, .inr (4, [w0, w1, .ref e2, w3])), (e2, .inl (cI, 4, .inl cf1))] H := hP
  have hD : va_D A [(h0, .inr (6, [.ref d0, .int pv1, .int fv1, .int lp1, .ref k4, .ref k5, .ref k6, v7, .int (nI t1), .int tl1, .int vr1, .int vl1])), (k4, .inl (cI, 501, .inl (fun j => nI (Kd j)))), (k5, .inl (cI, 501, .inl sf)), (k6, .inl (cI, 501, .inl nf)), (d0, .inr (4, [w0, w1, .ref e2, w3])), (e2, .inl (cI, 4, .inl cf1))] := hD
  have hS : va_S A s.heap H locs := hS
  have hl : lv_has ls 2 [(1, .int (nI n)), (0, .ref h0)] := hl
  refine lv_iload_n hx hb dX6_readCells_2 rfl (lv_at hl 0 rfl) ?_
  refine lv_sipush (v := 500) hx hb dX6_readCells_3 (by decide) ?_
  refine gy_gt (a := n) (b := 500) (tgt := 38) hx hb (by omega) (by omega) dX6_readCells_6 (by decide) (fun c_1 => ?_) (fun c_1 => ?_)
  · refine lv_iconst (v := 1) hx hb dX6_readCells_38 (by decide) ?_
    exact gx_zret (w' := [(h0, .inr (6, [.ref d0, .int pv1, .int fv1, .int lp1, .ref k4, .ref k5, .ref k6, v7, .int (nI t1), .int tl1, .int vr1, .int vl1])), (k4, .inl (cI, 501, .inl (fun j => nI (Kd j)))), (k5, .inl (cI, 501, .inl sf)), (k6, .inl (cI, 501, .inl nf)), (d0, .inr (4, [w0, w1, .ref e2, w3])), (e2, .inl (cI, 4, .inl cf1))]) hx hb hr hlk hK hP hD hS (Nat.le_of_ble_eq_true rfl) (Nat.le_of_ble_eq_true rfl) dX6_readCells_39 rfl ⟨1, pv1, fv1, lp1, t1, tl1, vr1, vl1, cf1, (Or.inr ⟨rfl, hi2_3⟩), (by omega), hi2_2, (by first | (exfalso; omega) | exact rOut_ok (rCs_end hi2_4 c_1) hi2_3 hi2_6), (by first | (exfalso; omega) | exact fun _ => (by rw [rCs_end hi2_4 c_1]; exact ⟨rfl, rfl⟩)), rfl, rfl⟩
  · refine lv_aload_n hx hb dX6_readCells_9 rfl (lv_at hl 1 rfl) ?_
    refine va_get (D := D) (ci := 6) (v := .ref k4) (C := RX6) (T := TX6) (N := 12) hx hb hts (fun _ h => List.mem_cons_of_mem _ (List.mem_append_left _ (List.mem_append_right _ h))) hown hK hP 0 rfl rfl 4 (by decide) (hts (.fieldLink RX6 22 "LitmusHall$Reader" "kinds" "[I") (by decide +kernel)) (fun _ h9 => h9) rfl dX6_readCells_10 ?_
    refine lv_aload_n hx hb dX6_readCells_13 rfl (lv_at hl 1 rfl) ?_
    refine va_get (D := D) (ci := 6) (v := .int (nI t1)) (C := RX6) (T := TX6) (N := 12) hx hb hts (fun _ h => List.mem_cons_of_mem _ (List.mem_append_left _ (List.mem_append_right _ h))) hown hK hP 0 rfl rfl 8 (by decide) (hts (.fieldLink RX6 45 "LitmusHall$Reader" "at" "I") (by decide +kernel)) (fun _ h9 => h9) rfl dX6_readCells_14 ?_
    refine gy_ild (i := t1) hx hb hK hP 1 rfl (by omega) (by omega) dX6_readCells_17 ?_
    refine gx_top (y := nI (Kd t1)) rfl ?_
    have hKt := hR.1 t1 (by omega)
    refine lv_bipush (v := 9) hx hb dX6_readCells_18 (by decide) ?_
    refine gy_ne (a := (Kd t1)) (b := 9) (tgt := 38) hx hb (by omega) (by omega) dX6_readCells_20 (by decide) (fun c_2 => ?_) (fun c_2 => ?_)
    · refine lv_iconst (v := 1) hx hb dX6_readCells_38 (by decide) ?_
      exact gx_zret (w' := [(h0, .inr (6, [.ref d0, .int pv1, .int fv1, .int lp1, .ref k4, .ref k5, .ref k6, v7, .int (nI t1), .int tl1, .int vr1, .int vl1])), (k4, .inl (cI, 501, .inl (fun j => nI (Kd j)))), (k5, .inl (cI, 501, .inl sf)), (k6, .inl (cI, 501, .inl nf)), (d0, .inr (4, [w0, w1, .ref e2, w3])), (e2, .inl (cI, 4, .inl cf1))]) hx hb hr hlk hK hP hD hS (Nat.le_of_ble_eq_true rfl) (Nat.le_of_ble_eq_true rfl) dX6_readCells_39 rfl ⟨1, pv1, fv1, lp1, t1, tl1, vr1, vl1, cf1, (Or.inr ⟨rfl, hi2_3⟩), (by omega), hi2_2, (by first | (exfalso; omega) | exact rOut_ok (rCs_end hi2_4 c_2) hi2_3 hi2_6), (by first | (exfalso; omega) | exact fun _ => (by rw [rCs_end hi2_4 c_2]; exact ⟨rfl, rfl⟩)), rfl, rfl⟩
    · have hk9 := c_2
      refine lv_aload_n hx hb dX6_readCells_23 rfl (lv_at hl 1 rfl) ?_
      refine gx_goi (wc := [(h0, .inr (6, [.ref d0, .int pv1, .int fv1, .int lp1, .ref k4, .ref k5, .ref k6, v7, .int (nI t1), .int tl1, .int vr1, .int vl1])), (k4, .inl (cI, 501, .inl (fun j => nI (Kd j)))), (k5, .inl (cI, 501, .inl sf)), (k6, .inl (cI, 501, .inl nf)), (d0, .inr (4, [w0, w1, .ref e2, w3])), (e2, .inl (cI, 4, .inl cf1))]) (wr := []) (va_runV (As := []) (rest := []) ⟨hx, hb, hml, hown, hts⟩ (x_readCellLine l D cI cB cZ h0 d0 e2 k4 k5 k6 (v7) (w0) (w1) (w3) Kd sf nf pv1 fv1 lp1 t1 tl1 vr1 vl1 cf1 (by omega) hR _) (cwV 0 hts gP_x_readCells__x_readCellLine rfl rfl rfl (by decide +kernel) ⟨Nat.le_of_ble_eq_true rfl, Nat.le_of_ble_eq_true rfl⟩) (gx_preV (ci := 6) (q0 := 0) hK gN.nil hP hD [0, 1, 2, 3, 4, 5] rfl rfl rfl rfl) rfl rfl hl.1 rfl (lv_room (Nat.le_of_ble_eq_true rfl)) dX6_readCells_24 ⟨Nat.le_of_ble_eq_true rfl, Nat.le_of_ble_eq_true rfl⟩) hP hD hS hA [0, 1, 2, 3, 4, 5] [] rfl rfl rfl (by decide) (fun r1 w1 H locs hp hP hD hS => ?_)
      obtain ⟨e_3, e_4, e_5, e_6, e_7, e_8, e_9, e_10, e_11, hq_12, hq_13, hq_14, hx24_0, hx24_1, h9, rfl⟩ := hp
      have h9 := h9.symm
      subst h9
      have hq_12 : (e_3 = 0 ∧ ¬ e_5 = 0) ∨ (e_3 = 1 ∧ e_5 = fv1 ∧ t1 < e_7) := hq_12
      have hq_13 : t1 ≤ e_7 ∧ e_7 ≤ 500 := hq_13
      have hq_14 : e_6 = (-1) → lp1 = (-1) := hq_14
      have hx24_0 : rOut (rCl Kd t1) e_7 (sf e_7) e_3 fv1 pv1 e_5 e_4 := hx24_0
      have hx24_1 : ¬ e_3 = 0 → e_6 = rCp sf nf t1 tl1 lp1 ∧ e_8 = rCt nf t1 tl1 ∧ e_11 = rCf Kd nf t1 cf1 := hx24_1
      have hk1 := hq_12
      have hk1t := hq_13
      have hpl := hq_14
      refine lv_if_ne (tgt := 32) hx hb dX6_readCells_27 (by decide) (fun c_15 => ?_) (fun c_15 => ?_)
      · have hy1 := gTkY hk1 c_15
        have hz24 := c_15
        have hyo := rOut_y hx24_0 hz24
        have hyw := hx24_1 hz24
        refine lv_iinc (v := nI (n + 1)) (lv' := [(1, .int (nI (n + 1))), (0, .ref h0)]) hx hb dX6_readCells_32 hl (k := 0) rfl (nI_add n 1) (by decide) rfl (fun ls hl => ?_)
        refine lv_goto (tgt := 2) hx hb dX6_readCells_35 (by decide) ?_
        exact ih2 ((n + 1), e_4, e_5, e_6, e_7, e_8, e_9, e_10, e_11) H locs ls ⟨(by show (n + 1) ≤ 501; omega), (by show t ≤ e_7 ∧ e_7 ≤ 500; omega), (fun h => hi2_2 (hpl h)), ((hy1.1).trans hi2_3), (rCs_step (by omega) hk9 hi2_4 hyo.1 hyw.1 hyw.2.1 hyw.2.2), (by show (n + 1) ≤ e_7; omega), ((hyo.2.2).trans hi2_6), hP, hD, hS, lv_sub hl [0, 1] rfl⟩ (by show 501 - (n + 1) < 501 - n; omega)
      · refine lv_iconst (v := 0) hx hb dX6_readCells_30 (by decide) ?_
        exact gx_zret (w' := [(h0, .inr (6, [.ref d0, .int e_4, .int e_5, .int e_6, .ref k4, .ref k5, .ref k6, v7, .int (nI e_7), .int e_8, .int e_9, .int e_10])), (k4, .inl (cI, 501, .inl (fun j => nI (Kd j)))), (k5, .inl (cI, 501, .inl sf)), (k6, .inl (cI, 501, .inl nf)), (d0, .inr (4, [w0, w1, .ref e2, w3])), (e2, .inl (cI, 4, .inl e_11))]) hx hb hr hlk hK hP hD hS (Nat.le_of_ble_eq_true rfl) (Nat.le_of_ble_eq_true rfl) dX6_readCells_31 rfl ⟨0, e_4, e_5, e_6, e_7, e_8, e_9, e_10, e_11, (Or.inl ⟨rfl, gTkN hk1 c_15⟩), (by omega), (fun h => hi2_2 (hpl h)), (rOut_e (rCs_stp (by omega) hk9 hi2_4 (rOut_n hx24_0 c_15)) (rOut_f hx24_0 c_15)), (fun h => absurd rfl h), rfl, rfl⟩
