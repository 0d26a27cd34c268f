
def gCl (w : Int32) (i : Nat) : Nat := (w >>> (((nI (7 + (2 * i))) : Int32) &&& 31)).toBitVec.toNat % 4
theorem gCl_lt (w : Int32) (i : Nat) : gCl w i < 4 := Nat.mod_lt _ (by decide)
def gSn (f : Nat → Int32) (k x : Nat) : Nat → Int32
  | 0 => f (9 + x)
  | i + 1 => if gCl (f (13 + k)) i = x then f ((16 + (k * 6)) + i) else gSn f k x i
theorem gSn_hit {f : Nat → Int32} {k x i : Nat} (hi : 0 < i) (h : gCl (f (13 + k)) (i - 1) = x) : gSn f k x i = f ((16 + (k * 6)) + (i - 1)) := by
  obtain ⟨j, rfl⟩ : ∃ j, i = j + 1 := ⟨i - 1, by omega⟩
  exact if_pos h
theorem gSn_miss {f : Nat → Int32} {k x i : Nat} (hi : 0 < i) (h : ¬ gCl (f (13 + k)) (i - 1) = x) : gSn f k x i = gSn f k x (i - 1) := by
  obtain ⟨j, rfl⟩ : ∃ j, i = j + 1 := ⟨i - 1, by omega⟩
  exact if_neg h
def gVl (pf f : Nat → Int32) (val k : Nat) : Int32 := if pf val = (-1) then pf (val + 1) else f ((k * 3) + (pf val).toNatClampNeg)
def gFs (f : Nat → Int32) (k : Nat) : Nat → Int32 := upd f (13 + k) ((f (13 + k)) &&& (-7864321))
def gLg (f : Nat → Int32) (k : Nat) : Nat → Int32 := upd (upd (va_cpy (upd f (9 + gCl (f (13 + k)) 0) (f (16 + (k * 6)))) (upd f (9 + gCl (f (13 + k)) 0) (f (16 + (k * 6)))) ((16 + (k * 6)) + 1) (16 + (k * 6)) 5) (((16 + (k * 6)) + 6) - 1) 0) (13 + k) ((((f (13 + k)) &&& (-524161)) ||| (((nI (((f (13 + k)) >>> ((7 : Int32) &&& 31)).toBitVec.toNat % 4096)) >>> ((2 : Int32) &&& 31)) <<< ((7 : Int32) &&& 31))) - 16)
def gPm (f : Nat → Int32) (k x : Nat) (v mode : Int32) : Nat → Int32 := if mode = 2 then upd (upd f (9 + x) v) (13 + k) (((upd f (9 + x) v) (13 + k)) ||| (1 <<< (((nI (19 + x)) : Int32) &&& 31))) else upd f (9 + x) v
def gPr (f : Nat → Int32) (k x : Nat) (v : Int32) : Nat → Int32 := upd (upd (upd f ((16 + (k * 6)) + (gSz (f (13 + k)))) v) (13 + k) (((upd f ((16 + (k * 6)) + (gSz (f (13 + k)))) v) (13 + k)) + 16)) (13 + k) (((upd (upd f ((16 + (k * 6)) + (gSz (f (13 + k)))) v) (13 + k) (((upd f ((16 + (k * 6)) + (gSz (f (13 + k)))) v) (13 + k)) + 16)) (13 + k)) ||| ((nI x) <<< (((nI (7 + (2 * (gSz (f (13 + k)))))) : Int32) &&& 31)))
def gPt (f : Nat → Int32) (k x : Nat) (v mode : Int32) : Nat → Int32 := if mode = 1 then (if 6 ≤ gSz (f (13 + k)) then gPm f k x v mode else gPr f k x v) else gPm f k x v mode
def gLk (f : Nat → Int32) (c r : Nat) (q a b : Int32) : Nat → Int32 := if q = 5 then upd (upd f r (f c)) c (f r) else if q = 6 then upd (upd f r (f c)) c (f c + a) else if f c = a then upd (upd f r (f c)) c b else upd f r (f c)
theorem gOkW_pm {f : Nat → Int32} {k x : Nat} {v mode : Int32} (hW : gOkW f) (hk : k < 3) (hx : x < 4) : gOkW (gPm f k x v mode) := by
  have hW1 := gOkW_out hW (i := 9 + x) (x := v) (by omega)
  unfold gPm
  by_cases h : mode = 2
  · rw [if_pos h]
    exact gOkW_in' hW1 (by rw [gLo_hi _ _ (gLo_shl _ _ (19 + x) (s_l (19 + x) (by omega)) (by omega))]; exact gOkW_lo hW1 hk)
  · rw [if_neg h]; exact hW1
theorem gOkW_pt {f : Nat → Int32} {k x : Nat} {v mode : Int32} (hW : gOkW f) (hk : k < 3) (hx : x < 4) : gOkW (gPt f k x v mode) := by
  unfold gPt
  by_cases h : mode = 1
  · rw [if_pos h]
    by_cases h6 : 6 ≤ gSz (f (13 + k))
    · rw [if_pos h6]; exact gOkW_pm hW hk hx
    · rw [if_neg h6]; exact gOkW_put hW hk (by omega)
  · rw [if_neg h]; exact gOkW_pm hW hk hx
theorem gOkW_fs {f : Nat → Int32} {k : Nat} (hW : gOkW f) (hk : k < 3) : gOkW (gFs f k) := gOkW_in' hW (by rw [gLo_mask _ _ (by decide)]; exact gOkW_lo hW hk)
theorem gOkW_lg {f : Nat → Int32} {k : Nat} (hW : gOkW f) (hk : k < 3) (hz : 0 < gSz (f (13 + k))) : gOkW (gLg f k) := by
  have hc := gCl_lt (f (13 + k)) 0
  exact gOkW_in' (gOkW_out (gOkW_cpy (gOkW_out hW (by omega)) (by omega)) (by omega)) (gLo_go hz (gOkW_lo hW hk))
theorem gOkW_lk {f : Nat → Int32} {c r : Nat} {q a b : Int32} (hW : gOkW f) (hc : c < 13) (hr : r < 13) : gOkW (gLk f c r q a b) := by
  have h1 := gOkW_out hW (i := r) (x := f c) (by omega)
  unfold gLk
  by_cases e1 : q = 5
  · rw [if_pos e1]; exact gOkW_out h1 (by omega)
  · rw [if_neg e1]
    by_cases e2 : q = 6
    · rw [if_pos e2]; exact gOkW_out h1 (by omega)
    · rw [if_neg e2]
      by_cases e3 : f c = a
      · rw [if_pos e3]; exact gOkW_out h1 (by omega)
      · rw [if_neg e3]; exact h1
def wsP_e_rowCell : List Cond := .code yX7_rowCell cX7_rowCell 3 (some .int) :: (([.fieldLink RX7 11 "LitmusHall$State" "words" "[I"] ++ wsX70) ++ [])
theorem gW_e_rowCell : wsP_e_rowCell.all goodWord = true := by unfold wsP_e_rowCell; exact gw_mk (by decide +kernel) rfl
set_option maxHeartbeats 4000000 in
set_option maxRecDepth 100000 in
theorem e_rowCell (l : Launch) (D : va_G) (cI cB cZ : ClassId) (h0 : Nat) (a1 : Nat) (f : Nat → Int32) (k : Nat) (i : Nat) (hk : k < 3) : gMi l yX7_rowCell wsP_e_rowCell ({ frames := 0, cells := 0, slots := 0, locals := 0 }) D cI cB cZ [] [.ref h0, .int (nI k), .int (nI i)] [(h0, .inr (7, [.ref a1])), (a1, .inl (cI, 34, .inl f))] (fun r9 w9 => r9 = (nI (gCl (f (13 + k)) i)) ∧ w9 = [(h0, .inr (7, [.ref a1])), (a1, .inl (cI, 34, .inl f))]) := by
  refine gMi.of (cc := cX7_rowCell) (maxL := 3) (ret := (some .int)) (by decide) rfl (Nat.le_of_ble_eq_true rfl) (fun p e s m below meth c A ls hx hb hr hlk hml hts hown hin hA hP hK hD hS hN hl => ?_)
  have hown : s.vm.findClass RX7 = some m.cls := hown
  have hl : lv_has ls 3 [(0, .ref h0), (1, .int (nI k)), (2, .int (nI i))] := hl
  refine lv_aload_n hx hb dX7_rowCell_0 rfl (lv_at hl 0 rfl) ?_
  refine va_get (D := D) (ci := 7) (v := .ref a1) (C := RX7) (T := TX7) (N := 1) hx hb hts (fun _ h => List.mem_cons_of_mem _ (List.mem_append_left _ (List.mem_append_right _ h))) hown hK hP 0 rfl rfl 0 (by decide) (hts (.fieldLink RX7 11 "LitmusHall$State" "words" "[I") (by decide +kernel)) (fun _ h9 => h9) rfl dX7_rowCell_1 ?_
  refine lv_bipush (v := 13) hx hb dX7_rowCell_4 (by decide) ?_
  refine lv_iload_n hx hb dX7_rowCell_6 rfl (lv_at hl 1 rfl) ?_
  refine lv_iadd hx hb dX7_rowCell_7 ?_
  refine gx_top (y := nI (13 + k)) (nI_add 13 k) ?_
  refine gy_ild (i := (13 + k)) hx hb hK hP 1 rfl (by omega) (by omega) dX7_rowCell_8 ?_
  refine lv_bipush (v := 7) hx hb dX7_rowCell_9 (by decide) ?_
  refine lv_iconst (v := 2) hx hb dX7_rowCell_11 (by decide) ?_
  refine lv_iload_n hx hb dX7_rowCell_12 rfl (lv_at hl 2 rfl) ?_
  refine lv_imul hx hb dX7_rowCell_13 ?_
  refine gx_top (y := nI (2 * i)) (pk_mul 2 i) ?_
  refine lv_iadd hx hb dX7_rowCell_14 ?_
  refine gx_top (y := nI (7 + (2 * i))) (nI_add 7 (2 * i)) ?_
  refine lv_ishr hx hb dX7_rowCell_15 ?_
  refine lv_iconst (v := 3) hx hb dX7_rowCell_16 (by decide) ?_
  refine lv_iand hx hb dX7_rowCell_17 ?_
  refine gx_top (pk_and ((f (13 + k)) >>> (((nI (7 + (2 * i))) : Int32) &&& 31)) (m := 3) 2 (by decide +kernel)) ?_
  have hj1 : ((f (13 + k)) >>> (((nI (7 + (2 * i))) : Int32) &&& 31)).toBitVec.toNat % 4 < 4 := Nat.mod_lt _ (by decide)
  exact gx_iret (w' := [(h0, .inr (7, [.ref a1])), (a1, .inl (cI, 34, .inl f))]) hx hb hr hlk hK hP hD hS (Nat.le_of_ble_eq_true rfl) (Nat.le_of_ble_eq_true rfl) dX7_rowCell_18 ⟨rfl, rfl⟩
def wsP_e_valueOf : List Cond := .code yX7_valueOf cX7_valueOf 5 (some .int) :: (([.fieldLink RX7 11 "LitmusHall$State" "words" "[I"] ++ wsX70) ++ [])
theorem gW_e_valueOf : wsP_e_valueOf.all goodWord = true := by unfold wsP_e_valueOf; exact gw_mk (by decide +kernel) rfl
set_option maxHeartbeats 4000000 in
set_option maxRecDepth 100000 in
theorem e_valueOf (l : Launch) (D : va_G) (cI cB cZ : ClassId) (h0 : Nat) (a1 : Nat) (f : Nat → Int32) (b3 : Nat) (pf : Nat → Int32) (val : Nat) (k : Nat) (hv : val < 191) (hk : k < 3) (hreg : pf val = (-1) ∨ ∃ r, r < 3 ∧ pf val = nI r) : gMi l yX7_valueOf wsP_e_valueOf ({ frames := 0, cells := 0, slots := 0, locals := 0 }) D cI cB cZ [] [.ref h0, .ref b3, .int (nI val), .int (nI k)] [(h0, .inr (7, [.ref a1])), (a1, .inl (cI, 34, .inl f)), (b3, .inl (cI, 192, .inl pf))] (fun r9 w9 => r9 = (gVl pf f val k) ∧ w9 = [(h0, .inr (7, [.ref a1])), (a1, .inl (cI, 34, .inl f)), (b3, .inl (cI, 192, .inl pf))]) := by
  refine gMi.of (cc := cX7_valueOf) (maxL := 5) (ret := (some .int)) (by decide) rfl (Nat.le_of_ble_eq_true rfl) (fun p e s m below meth c A ls hx hb hr hlk hml hts hown hin hA hP hK hD hS hN hl => ?_)
  have hown : s.vm.findClass RX7 = some m.cls := hown
  have hl : lv_has ls 5 [(0, .ref h0), (1, .ref b3), (2, .int (nI val)), (3, .int (nI k))] := hl
  refine lv_aload_n hx hb dX7_valueOf_0 rfl (lv_at hl 1 rfl) ?_
  refine lv_iload_n hx hb dX7_valueOf_1 rfl (lv_at hl 2 rfl) ?_
  refine gy_ild (i := val) hx hb hK hP 2 rfl (by omega) (by omega) dX7_valueOf_2 ?_
  refine lv_istore (lv' := [(4, .int (pf val)), (0, .ref h0), (1, .ref b3), (2, .int (nI val)), (3, .int (nI k))]) hx hb dX7_valueOf_3 hl (by decide) rfl (fun ls hl => ?_)
  refine lv_iload hx hb dX7_valueOf_5 (lv_at hl 0 rfl) ?_
  refine lv_iconst (v := (-1)) hx hb dX7_valueOf_7 (by decide) ?_
  refine lv_icmp_ne (tgt := 19) hx hb dX7_valueOf_8 (by decide) (fun c_1 => ?_) (fun c_1 => ?_)
  · obtain ⟨r, hr3, er⟩ := hreg.resolve_left c_1
    have hev : gVl pf f val k = f ((k * 3) + r) := by unfold gVl; rw [if_neg c_1, er, nI_clamp (by omega)]
    refine lv_aload_n hx hb dX7_valueOf_19 rfl (lv_at hl 1 rfl) ?_
    refine va_get (D := D) (ci := 7) (v := .ref a1) (C := RX7) (T := TX7) (N := 1) hx hb hts (fun _ h => List.mem_cons_of_mem _ (List.mem_append_left _ (List.mem_append_right _ h))) hown hK hP 0 rfl rfl 0 (by decide) (hts (.fieldLink RX7 11 "LitmusHall$State" "words" "[I") (by decide +kernel)) (fun _ h9 => h9) rfl dX7_valueOf_20 ?_
    refine lv_iload_n hx hb dX7_valueOf_23 rfl (lv_at hl 4 rfl) ?_
    refine lv_iconst (v := 3) hx hb dX7_valueOf_24 (by decide) ?_
    refine lv_imul hx hb dX7_valueOf_25 ?_
    refine gx_top (y := nI (k * 3)) (pk_mul k 3) ?_
    refine lv_iload hx hb dX7_valueOf_26 (lv_at hl 0 rfl) ?_
    refine gx_top (y := nI r) er ?_
    refine lv_iadd hx hb dX7_valueOf_28 ?_
    refine gx_top (y := nI ((k * 3) + r)) (nI_add (k * 3) r) ?_
    refine gy_ild (i := ((k * 3) + r)) hx hb hK hP 1 rfl (by omega) (by omega) dX7_valueOf_29 ?_
    exact gx_iret (w' := [(h0, .inr (7, [.ref a1])), (a1, .inl (cI, 34, .inl f)), (b3, .inl (cI, 192, .inl pf))]) hx hb hr hlk hK hP hD hS (Nat.le_of_ble_eq_true rfl) (Nat.le_of_ble_eq_true rfl) dX7_valueOf_30 ⟨hev.symm, rfl⟩
  · have hev : gVl pf f val k = pf (val + 1) := if_pos c_1
    refine lv_aload_n hx hb dX7_valueOf_11 rfl (lv_at hl 2 rfl) ?_
    refine lv_iload_n hx hb dX7_valueOf_12 rfl (lv_at hl 3 rfl) ?_
    refine lv_iconst (v := 1) hx hb dX7_valueOf_13 (by decide) ?_
    refine lv_iadd hx hb dX7_valueOf_14 ?_
    refine gx_top (y := nI (val + 1)) (nI_add val 1) ?_
    refine gy_ild (i := (val + 1)) hx hb hK hP 2 rfl (by omega) (by omega) dX7_valueOf_15 ?_
    refine lv_goto (tgt := 30) hx hb dX7_valueOf_16 (by decide) ?_
    exact gx_iret (w' := [(h0, .inr (7, [.ref a1])), (a1, .inl (cI, 34, .inl f)), (b3, .inl (cI, 192, .inl pf))]) hx hb hr hlk hK hP hD hS (Nat.le_of_ble_eq_true rfl) (Nat.le_of_ble_eq_true rfl) dX7_valueOf_30 ⟨hev.symm, rfl⟩
def wsP_e_seen : List Cond := .code yX7_seen cX7_seen 4 (some .int) :: (([.methodLink RX7 39 yX7_rowSize, .instanceMethod yX7_rowSize, .selects RX7 yX7_rowSize yX7_rowSize, .initialized RX7, .fieldLink RX7 11 "LitmusHall$State" "words" "[I", .methodLink RX7 86 yX7_rowCell, .instanceMethod yX7_rowCell, .selects RX7 yX7_rowCell yX7_rowCell, .methodLink RX7 90 yX7_rowInt, .instanceMethod yX7_rowInt, .selects RX7 yX7_rowInt yX7_rowInt] ++ wsX70) ++ (wsP_c_rowSize ++ (wsP_e_rowCell ++ (wsP_c_rowInt ++ []))))
theorem gW_e_seen : wsP_e_seen.all goodWord = true := by unfold wsP_e_seen; exact gw_mk (by decide +kernel) (gw_app gW_c_rowSize (gw_app gW_e_rowCell (gw_app gW_c_rowInt rfl)))
set_option maxRecDepth 20000 in
theorem gP_e_seen__c_rowSize : GoodIn wsP_e_seen (wsV RX7 39 RX7 yX7_rowSize wsP_c_rowSize) := gw_in (pre := [.methodLink RX7 39 yX7_rowSize, .instanceMethod yX7_rowSize, .selects RX7 yX7_rowSize yX7_rowSize, .initialized RX7]) (by decide +kernel) (fun _ h => List.mem_cons_of_mem _ (List.mem_append_right _ (List.mem_append_left _ h))) gW_c_rowSize
set_option maxRecDepth 20000 in
theorem gP_e_seen__e_rowCell : GoodIn wsP_e_seen (wsV RX7 86 RX7 yX7_rowCell wsP_e_rowCell) := gw_in (pre := [.methodLink RX7 86 yX7_rowCell, .instanceMethod yX7_rowCell, .selects RX7 yX7_rowCell yX7_rowCell, .initialized RX7]) (by decide +kernel) (fun _ h => List.mem_cons_of_mem _ (List.mem_append_right _ (List.mem_append_right _ (List.mem_append_left _ h)))) gW_e_rowCell
set_option maxRecDepth 20000 in
theorem gP_e_seen__c_rowInt : GoodIn wsP_e_seen (wsV RX7 90 RX7 yX7_rowInt wsP_c_rowInt) := gw_in (pre := [.methodLink RX7 90 yX7_rowInt, .instanceMethod yX7_rowInt, .selects RX7 yX7_rowInt yX7_rowInt, .initialized RX7]) (by decide +kernel) (fun _ h => List.mem_cons_of_mem _ (List.mem_append_right _ (List.mem_append_right _ (List.mem_append_right _ (List.mem_append_left _ h))))) gW_c_rowInt
set_option maxHeartbeats 4000000 in
set_option maxRecDepth 100000 in
theorem e_seen (l : Launch) (D : va_G) (cI cB cZ : ClassId) (h0 : Nat) (a1 : Nat) (f : Nat → Int32) (k : Nat) (x : Nat) (hk : k < 3) (hx0 : x < 4) (hW : gOkW f) : gMi l yX7_seen wsP_e_seen ({ frames := 1, cells := 0, slots := 0, locals := 22 }) D cI cB cZ [] [.ref h0, .int (nI k), .int (nI x)] [(h0, .inr (7, [.ref a1])), (a1, .inl (cI, 34, .inl f))] (fun r9 w9 => r9 = (gSn f k x (gSz (f (13 + k)))) ∧ w9 = [(h0, .inr (7, [.ref a1])), (a1, .inl (cI, 34, .inl f))]) := by
  refine gMi.of (cc := cX7_seen) (maxL := 4) (ret := (some .int)) (by decide) rfl (Nat.le_of_ble_eq_true rfl) (fun p e s m below meth c A ls hx hb hr hlk hml hts hown hin hA hP hK hD hS hN hl => ?_)
  have hown : s.vm.findClass RX7 = some m.cls := hown
  have hl : lv_has ls 4 [(0, .ref h0), (1, .int (nI k)), (2, .int (nI x))] := hl
  refine lv_aload_n hx hb dX7_seen_0 rfl (lv_at hl 0 rfl) ?_
  refine lv_iload_n hx hb dX7_seen_1 rfl (lv_at hl 1 rfl) ?_
  refine gx_goi (wc := [(h0, .inr (7, [.ref a1])), (a1, .inl (cI, 34, .inl f))]) (wr := []) (va_runV (As := [.int (nI k)]) (rest := []) ⟨hx, hb, hml, hown, hts⟩ (c_rowSize l D cI cB cZ h0 a1 f k (by omega) _) (cwV 1 hts gP_e_seen__c_rowSize rfl rfl rfl (by decide +kernel) ⟨Nat.le_of_ble_eq_true rfl, Nat.le_of_ble_eq_true rfl⟩) (gx_preV (ci := 7) (q0 := 0) hK gN.nil hP hD [0, 1] rfl rfl rfl rfl) rfl rfl hl.1 rfl (lv_room (Nat.le_of_ble_eq_true rfl)) dX7_seen_2 ⟨Nat.le_of_ble_eq_true rfl, Nat.le_of_ble_eq_true rfl⟩) hP hD hS hA [0, 1] [] rfl rfl rfl (by decide) (fun r1 w1 H locs hp hP hD hS => ?_)
  obtain ⟨h9, rfl⟩ := hp
  have h9 := h9.symm
  subst h9
  have hsz := gSz_lt (f (13 + k))
  refine lv_iconst (v := 1) hx hb dX7_seen_5 (by decide) ?_
  refine lv_isub hx hb dX7_seen_6 ?_
  refine lv_istore_n (lv' := [(3, .int (nI (gSz (f (13 + k))) - 1)), (0, .ref h0), (1, .int (nI k)), (2, .int (nI x))]) hx hb dX7_seen_7 rfl hl (by decide) rfl (fun ls hl => ?_)
  refine gy_loop0 (I := fun (x9 : Nat) H locs ls => (x9 ≤ 6) ∧ (gSn f k x (gSz (f (13 + k))) = gSn f k x x9) ∧ va_P D vwCl [(h0, .inr (7, [.ref a1])), (a1, .inl (cI, 34, .inl f))] H ∧ va_D A [(h0, .inr (7, [.ref a1])), (a1, .inl (cI, 34, .inl f))] ∧ va_S A s.heap H locs ∧ lv_has ls 4 [(3, .int (nI x9 - 1)), (0, .ref h0), (1, .int (nI k)), (2, .int (nI x))]) (μ := fun (x9 : Nat) => x9) (fun x9 H locs ls hI ih8 => ?_) (gSz (f (13 + k))) ⟨(hW k hk), rfl, hP, hD, hS, lv_sub hl [0, 1, 2, 3] rfl⟩
  obtain ⟨i, rfl⟩ : ∃ z9, z9 = x9 := ⟨_, rfl⟩
  obtain ⟨hi8_0, hi8_1, hP, hD, hS, hl⟩ := hI
  have hi8_0 : i ≤ 6 := hi8_0
  have hi8_1 : gSn f k x (gSz (f (13 + k))) = gSn f k x i := hi8_1
  have hP : va_P D vwCl [(h0, .inr (7, [.ref a1])), (a1, .inl (cI, 34, .inl f))] H := hP
  have hD : va_D A [(h0, .inr (7, [.ref a1])), (a1, .inl (cI, 34, .inl f))] := hD
  have hS : va_S A s.heap H locs := hS
  have hl : lv_has ls 4 [(3, .int (nI i - 1)), (0, .ref h0), (1, .int (nI k)), (2, .int (nI x))] := hl
  refine lv_iload_n hx hb dX7_seen_8 rfl (lv_at hl 0 rfl) ?_
  refine lv_if_lt (tgt := 35) hx hb dX7_seen_9 (by decide) (fun c_1 => ?_) (fun c_1 => ?_)
  · have c_1 : i = 0 := gy_m1z (by omega) c_1
    refine lv_aload_n hx hb dX7_seen_35 rfl (lv_at hl 1 rfl) ?_
    refine va_get (D := D) (ci := 7) (v := .ref a1) (C := RX7) (T := TX7) (N := 1) hx hb hts (fun _ h => List.mem_cons_of_mem _ (List.mem_append_left _ (List.mem_append_right _ h))) hown hK hP 0 rfl rfl 0 (by decide) (hts (.fieldLink RX7 11 "LitmusHall$State" "words" "[I") (by decide +kernel)) (fun _ h9 => h9) rfl dX7_seen_36 ?_
    refine lv_bipush (v := 9) hx hb dX7_seen_39 (by decide) ?_
    refine lv_iload_n hx hb dX7_seen_41 rfl (lv_at hl 3 rfl) ?_
    refine lv_iadd hx hb dX7_seen_42 ?_
    refine gx_top (y := nI (9 + x)) (nI_add 9 x) ?_
    refine gy_ild (i := (9 + x)) hx hb hK hP 1 rfl (by omega) (by omega) dX7_seen_43 ?_
    exact gx_iret (w' := [(h0, .inr (7, [.ref a1])), (a1, .inl (cI, 34, .inl f))]) hx hb hr hlk hK hP hD hS (Nat.le_of_ble_eq_true rfl) (Nat.le_of_ble_eq_true rfl) dX7_seen_44 ⟨(by rw [hi8_1, c_1]; rfl), rfl⟩
  · have c_1 : 0 < i := gy_m1p (by omega) c_1
    have em : nI i - 1 = nI (i - 1) := pk_sub (a := i) (b := 1) (by omega)
    rw [em] at hl
    have hl : lv_has ls 4 [(3, .int (nI (i - 1))), (0, .ref h0), (1, .int (nI k)), (2, .int (nI x))] := hl
    refine lv_aload_n hx hb dX7_seen_12 rfl (lv_at hl 1 rfl) ?_
    refine lv_iload_n hx hb dX7_seen_13 rfl (lv_at hl 2 rfl) ?_
    refine lv_iload_n hx hb dX7_seen_14 rfl (lv_at hl 0 rfl) ?_
    have hcl := gCl_lt (f (13 + k)) (i - 1)
    refine gx_goi (wc := [(h0, .inr (7, [.ref a1])), (a1, .inl (cI, 34, .inl f))]) (wr := []) (va_runV (As := [.int (nI k), .int (nI (i - 1))]) (rest := []) ⟨hx, hb, hml, hown, hts⟩ (e_rowCell l D cI cB cZ h0 a1 f k (i - 1) (by omega) _) (cwV 2 hts gP_e_seen__e_rowCell rfl rfl rfl (by decide +kernel) ⟨Nat.le_of_ble_eq_true rfl, Nat.le_of_ble_eq_true rfl⟩) (gx_preV (ci := 7) (q0 := 0) hK gN.nil hP hD [0, 1] rfl rfl rfl rfl) rfl rfl hl.1 rfl (lv_room (Nat.le_of_ble_eq_true rfl)) dX7_seen_15 ⟨Nat.le_of_ble_eq_true rfl, Nat.le_of_ble_eq_true rfl⟩) hP hD hS hA [0, 1] [] rfl rfl rfl (by decide) (fun r1 w1 H locs hp hP hD hS => ?_)
    obtain ⟨h9, rfl⟩ := hp
    have h9 := h9.symm
    subst h9
    refine lv_iload_n hx hb dX7_seen_18 rfl (lv_at hl 3 rfl) ?_
    refine gy_ne (a := (gCl (f (13 + k)) (i - 1))) (b := x) (tgt := 29) hx hb (by omega) (by omega) dX7_seen_19 (by decide) (fun c_2 => ?_) (fun c_2 => ?_)
    · refine lv_iinc (v := nI (i - 1) - 1) (lv' := [(3, .int (nI (i - 1) - 1)), (0, .ref h0), (1, .int (nI k)), (2, .int (nI x))]) hx hb dX7_seen_29 hl (k := 0) rfl (gy_dec (i - 1)) (by decide) rfl (fun ls hl => ?_)
      refine lv_goto (tgt := 8) hx hb dX7_seen_32 (by decide) ?_
      exact ih8 (i - 1) H locs ls ⟨(by show (i - 1) ≤ 6; omega), (hi8_1.trans (gSn_miss (by omega) (fun q9 => c_2 q9))), hP, hD, hS, lv_sub hl [0, 1, 2, 3] rfl⟩ (by show (i - 1) < i; omega)
    · refine lv_aload_n hx hb dX7_seen_22 rfl (lv_at hl 1 rfl) ?_
      refine lv_iload_n hx hb dX7_seen_23 rfl (lv_at hl 2 rfl) ?_
      refine lv_iload_n hx hb dX7_seen_24 rfl (lv_at hl 0 rfl) ?_
      refine gx_goi (wc := [(h0, .inr (7, [.ref a1])), (a1, .inl (cI, 34, .inl f))]) (wr := []) (va_runV (As := [.int (nI k), .int (nI (i - 1))]) (rest := []) ⟨hx, hb, hml, hown, hts⟩ (c_rowInt l D cI cB cZ h0 a1 f k (i - 1) (by omega) (by omega) _) (cwV 2 hts gP_e_seen__c_rowInt rfl rfl rfl (by decide +kernel) ⟨Nat.le_of_ble_eq_true rfl, Nat.le_of_ble_eq_true rfl⟩) (gx_preV (ci := 7) (q0 := 0) hK gN.nil hP hD [0, 1] rfl rfl rfl rfl) rfl rfl hl.1 rfl (lv_room (Nat.le_of_ble_eq_true rfl)) dX7_seen_25 ⟨Nat.le_of_ble_eq_true rfl, Nat.le_of_ble_eq_true rfl⟩) hP hD hS hA [0, 1] [] rfl rfl rfl (by decide) (fun r1 w1 H locs hp hP hD hS => ?_)
      obtain ⟨h9, rfl⟩ := hp
      have h9 := h9.symm
      subst h9
      exact gx_iret (w' := [(h0, .inr (7, [.ref a1])), (a1, .inl (cI, 34, .inl f))]) hx hb hr hlk hK hP hD hS (Nat.le_of_ble_eq_true rfl) (Nat.le_of_ble_eq_true rfl) dX7_seen_28 ⟨(hi8_1.trans (gSn_hit (by omega) c_2)).symm, rfl⟩
def wsP_e_put : List Cond := .code yX7_put cX7_put 6 none :: (([.methodLink RX7 39 yX7_rowSize, .instanceMethod yX7_rowSize, .selects RX7 yX7_rowSize yX7_rowSize, .initialized RX7, .fieldLink RX7 11 "LitmusHall$State" "words" "[I"] ++ wsX70) ++ (wsP_c_rowSize ++ []))
theorem gW_e_put : wsP_e_put.all goodWord = true := by unfold wsP_e_put; exact gw_mk (by decide +kernel) (gw_app gW_c_rowSize rfl)
set_option maxRecDepth 20000 in
theorem gP_e_put__c_rowSize : GoodIn wsP_e_put (wsV RX7 39 RX7 yX7_rowSize wsP_c_rowSize) := gw_in (pre := [.methodLink RX7 39 yX7_rowSize, .instanceMethod yX7_rowSize, .selects RX7 yX7_rowSize yX7_rowSize, .initialized RX7]) (by decide +kernel) (fun _ h => List.mem_cons_of_mem _ (List.mem_append_right _ (List.mem_append_left _ h))) gW_c_rowSize
set_option maxHeartbeats 4000000 in
set_option maxRecDepth 100000 in
theorem e_put (l : Launch) (D : va_G) (cI cB cZ : ClassId) (h0 : Nat) (a1 : Nat) (f : Nat → Int32) (k : Nat) (x : Nat) (v : Int32) (mode : Int32) (hk : k < 3) (hx0 : x < 4) : gMv l yX7_put wsP_e_put ({ frames := 1, cells := 0, slots := 0, locals := 21 }) D cI cB cZ [] [.ref h0, .int (nI k), .int (nI x), .int v, .int mode] [(h0, .inr (7, [.ref a1])), (a1, .inl (cI, 34, .inl f))] (fun w9 => ∃ g : Nat → Int32, (g = gPt f k x v mode) ∧ w9 = [(h0, .inr (7, [.ref a1])), (a1, .inl (cI, 34, .inl g))]) := by
  refine gMv.of (cc := cX7_put) (maxL := 6) (ret := none) (by decide) rfl (Nat.le_of_ble_eq_true rfl) (fun p e s m below meth c A ls hx hb hr hlk hml hts hown hin hA hP hK hD hS hN hl => ?_)
  have hown : s.vm.findClass RX7 = some m.cls := hown
  have hl : lv_has ls 6 [(0, .ref h0), (1, .int (nI k)), (2, .int (nI x)), (3, .int v), (4, .int mode)] := hl
  refine lv_aload_n hx hb dX7_put_0 rfl (lv_at hl 0 rfl) ?_
  refine lv_iload_n hx hb dX7_put_1 rfl (lv_at hl 1 rfl) ?_
  refine gx_goi (wc := [(h0, .inr (7, [.ref a1])), (a1, .inl (cI, 34, .inl f))]) (wr := []) (va_runV (As := [.int (nI k)]) (rest := []) ⟨hx, hb, hml, hown, hts⟩ (c_rowSize l D cI cB cZ h0 a1 f k (by omega) _) (cwV 1 hts gP_e_put__c_rowSize rfl rfl rfl (by decide +kernel) ⟨Nat.le_of_ble_eq_true rfl, Nat.le_of_ble_eq_true rfl⟩) (gx_preV (ci := 7) (q0 := 0) hK gN.nil hP hD [0, 1] rfl rfl rfl rfl) rfl rfl hl.1 rfl (lv_room (Nat.le_of_ble_eq_true rfl)) dX7_put_2 ⟨Nat.le_of_ble_eq_true rfl, Nat.le_of_ble_eq_true rfl⟩) hP hD hS hA [0, 1] [] rfl rfl rfl (by decide) (fun r1 w1 H locs hp hP hD hS => ?_)
  obtain ⟨h9, rfl⟩ := hp
  have h9 := h9.symm
  subst h9
  have hsz := gSz_lt (f (13 + k))
  refine lv_istore (lv' := [(5, .int (nI (gSz (f (13 + k))))), (0, .ref h0), (1, .int (nI k)), (2, .int (nI x)), (3, .int v), (4, .int mode)]) hx hb dX7_put_5 hl (by decide) rfl (fun ls hl => ?_)
  refine lv_iload hx hb dX7_put_7 (lv_at hl 5 rfl) ?_
  refine lv_iconst (v := 1) hx hb dX7_put_9 (by decide) ?_
  refine lv_icmp_ne (tgt := 72) hx hb dX7_put_10 (by decide) (fun c_1 => ?_) (fun c_1 => ?_)
  · refine lv_aload_n hx hb dX7_put_72 rfl (lv_at hl 1 rfl) ?_
    refine va_get (D := D) (ci := 7) (v := .ref a1) (C := RX7) (T := TX7) (N := 1) hx hb hts (fun _ h => List.mem_cons_of_mem _ (List.mem_append_left _ (List.mem_append_right _ h))) hown hK hP 0 rfl rfl 0 (by decide) (hts (.fieldLink RX7 11 "LitmusHall$State" "words" "[I") (by decide +kernel)) (fun _ h9 => h9) rfl dX7_put_73 ?_
    refine lv_bipush (v := 9) hx hb dX7_put_76 (by decide) ?_
    refine lv_iload_n hx hb dX7_put_78 rfl (lv_at hl 3 rfl) ?_
    refine lv_iadd hx hb dX7_put_79 ?_
    refine gx_top (y := nI (9 + x)) (nI_add 9 x) ?_
    refine lv_iload_n hx hb dX7_put_80 rfl (lv_at hl 4 rfl) ?_
    refine gy_ist (i := (9 + x)) hx hb hK hP hD hS 1 rfl (by omega) (by omega) dX7_put_81 (fun H locs hP hD hS => ?_)
    have hP : va_P D vwCl [(h0, .inr (7, [.ref a1])), (a1, .inl (cI, 34, .inl (upd f (9 + x) v)))] H := hP
    have hD : va_D A [(h0, .inr (7, [.ref a1])), (a1, .inl (cI, 34, .inl (upd f (9 + x) v)))] := hD
    refine lv_iload hx hb dX7_put_82 (lv_at hl 5 rfl) ?_
    refine lv_iconst (v := 2) hx hb dX7_put_84 (by decide) ?_
    refine lv_icmp_ne (tgt := 106) hx hb dX7_put_85 (by decide) (fun c_2 => ?_) (fun c_2 => ?_)
    · exact gx_vret (w' := [(h0, .inr (7, [.ref a1])), (a1, .inl (cI, 34, .inl (upd f (9 + x) v)))]) hx hb hr hlk hK hP hD hS (Nat.le_of_ble_eq_true rfl) (Nat.le_of_ble_eq_true rfl) dX7_put_106 ⟨(upd f (9 + x) v), (by unfold gPt gPm; first | rw [if_pos c_1, if_pos c_2, if_pos True.intro] | rw [if_pos c_1, if_pos c_2, if_neg True.intro] | rw [if_neg c_1, if_pos c_2] | rw [if_neg c_1, if_neg c_2]), rfl⟩
    · refine lv_aload_n hx hb dX7_put_88 rfl (lv_at hl 1 rfl) ?_
      refine va_get (D := D) (ci := 7) (v := .ref a1) (C := RX7) (T := TX7) (N := 1) hx hb hts (fun _ h => List.mem_cons_of_mem _ (List.mem_append_left _ (List.mem_append_right _ h))) hown hK hP 0 rfl rfl 0 (by decide) (hts (.fieldLink RX7 11 "LitmusHall$State" "words" "[I") (by decide +kernel)) (fun _ h9 => h9) rfl dX7_put_89 ?_
      refine lv_bipush (v := 13) hx hb dX7_put_92 (by decide) ?_
      refine lv_iload_n hx hb dX7_put_94 rfl (lv_at hl 2 rfl) ?_
      refine lv_iadd hx hb dX7_put_95 ?_
      refine gx_top (y := nI (13 + k)) (nI_add 13 k) ?_
      refine lv_dup2_11 hx hb dX7_put_96 rfl rfl ?_
      refine gy_ild (i := (13 + k)) hx hb hK hP 1 rfl (by omega) (by omega) dX7_put_97 ?_
      refine lv_iconst (v := 1) hx hb dX7_put_98 (by decide) ?_
      refine lv_bipush (v := 19) hx hb dX7_put_99 (by decide) ?_
      refine lv_iload_n hx hb dX7_put_101 rfl (lv_at hl 3 rfl) ?_
      refine lv_iadd hx hb dX7_put_102 ?_
      refine gx_top (y := nI (19 + x)) (nI_add 19 x) ?_
      refine lv_ishl hx hb dX7_put_103 ?_
      refine lv_ior hx hb dX7_put_104 ?_
      refine gy_ist (i := (13 + k)) hx hb hK hP hD hS 1 rfl (by omega) (by omega) dX7_put_105 (fun H locs hP hD hS => ?_)
      have hP : va_P D vwCl [(h0, .inr (7, [.ref a1])), (a1, .inl (cI, 34, .inl (upd (upd f (9 + x) v) (13 + k) (((upd f (9 + x) v) (13 + k)) ||| (1 <<< (((nI (19 + x)) : Int32) &&& 31))))))] H := hP
      have hD : va_D A [(h0, .inr (7, [.ref a1])), (a1, .inl (cI, 34, .inl (upd (upd f (9 + x) v) (13 + k) (((upd f (9 + x) v) (13 + k)) ||| (1 <<< (((nI (19 + x)) : Int32) &&& 31))))))] := hD
      exact gx_vret (w' := [(h0, .inr (7, [.ref a1])), (a1, .inl (cI, 34, .inl (upd (upd f (9 + x) v) (13 + k) (((upd f (9 + x) v) (13 + k)) ||| (1 <<< (((nI (19 + x)) : Int32) &&& 31))))))]) hx hb hr hlk hK hP hD hS (Nat.le_of_ble_eq_true rfl) (Nat.le_of_ble_eq_true rfl) dX7_put_106 ⟨(upd (upd f (9 + x) v) (13 + k) (((upd f (9 + x) v) (13 + k)) ||| (1 <<< (((nI (19 + x)) : Int32) &&& 31)))), (by unfold gPt gPm; first | rw [if_pos c_1, if_pos c_2, if_pos True.intro] | rw [if_pos c_1, if_pos c_2, if_neg True.intro] | rw [if_neg c_1, if_pos c_2] | rw [if_neg c_1, if_neg c_2]), rfl⟩
  · refine lv_iload hx hb dX7_put_13 (lv_at hl 0 rfl) ?_
    refine lv_bipush (v := 6) hx hb dX7_put_15 (by decide) ?_
    refine gy_ge (a := (gSz (f (13 + k)))) (b := 6) (tgt := 72) hx hb (by omega) (by omega) dX7_put_17 (by decide) (fun c_3 => ?_) (fun c_3 => ?_)
    · refine lv_aload_n hx hb dX7_put_72 rfl (lv_at hl 1 rfl) ?_
      refine va_get (D := D) (ci := 7) (v := .ref a1) (C := RX7) (T := TX7) (N := 1) hx hb hts (fun _ h => List.mem_cons_of_mem _ (List.mem_append_left _ (List.mem_append_right _ h))) hown hK hP 0 rfl rfl 0 (by decide) (hts (.fieldLink RX7 11 "LitmusHall$State" "words" "[I") (by decide +kernel)) (fun _ h9 => h9) rfl dX7_put_73 ?_
      refine lv_bipush (v := 9) hx hb dX7_put_76 (by decide) ?_
      refine lv_iload_n hx hb dX7_put_78 rfl (lv_at hl 3 rfl) ?_
      refine lv_iadd hx hb dX7_put_79 ?_
      refine gx_top (y := nI (9 + x)) (nI_add 9 x) ?_
      refine lv_iload_n hx hb dX7_put_80 rfl (lv_at hl 4 rfl) ?_
      refine gy_ist (i := (9 + x)) hx hb hK hP hD hS 1 rfl (by omega) (by omega) dX7_put_81 (fun H locs hP hD hS => ?_)
      have hP : va_P D vwCl [(h0, .inr (7, [.ref a1])), (a1, .inl (cI, 34, .inl (upd f (9 + x) v)))] H := hP
      have hD : va_D A [(h0, .inr (7, [.ref a1])), (a1, .inl (cI, 34, .inl (upd f (9 + x) v)))] := hD
      refine lv_iload hx hb dX7_put_82 (lv_at hl 5 rfl) ?_
      refine lv_iconst (v := 2) hx hb dX7_put_84 (by decide) ?_
      refine lv_icmp_ne (tgt := 106) hx hb dX7_put_85 (by decide) (fun c_4 => ?_) (fun c_4 => ?_)
      · exact gx_vret (w' := [(h0, .inr (7, [.ref a1])), (a1, .inl (cI, 34, .inl (upd f (9 + x) v)))]) hx hb hr hlk hK hP hD hS (Nat.le_of_ble_eq_true rfl) (Nat.le_of_ble_eq_true rfl) dX7_put_106 ⟨(upd f (9 + x) v), (by unfold gPt gPm; first | rw [if_pos c_1, if_pos c_3, if_pos c_4] | rw [if_pos c_1, if_pos c_3, if_neg c_4] | rw [if_neg c_1, if_pos c_3] | rw [if_neg c_1, if_neg c_3]), rfl⟩
      · refine lv_aload_n hx hb dX7_put_88 rfl (lv_at hl 1 rfl) ?_
        refine va_get (D := D) (ci := 7) (v := .ref a1) (C := RX7) (T := TX7) (N := 1) hx hb hts (fun _ h => List.mem_cons_of_mem _ (List.mem_append_left _ (List.mem_append_right _ h))) hown hK hP 0 rfl rfl 0 (by decide) (hts (.fieldLink RX7 11 "LitmusHall$State" "words" "[I") (by decide +kernel)) (fun _ h9 => h9) rfl dX7_put_89 ?_
        refine lv_bipush (v := 13) hx hb dX7_put_92 (by decide) ?_
        refine lv_iload_n hx hb dX7_put_94 rfl (lv_at hl 2 rfl) ?_
        refine lv_iadd hx hb dX7_put_95 ?_
        refine gx_top (y := nI (13 + k)) (nI_add 13 k) ?_
        refine lv_dup2_11 hx hb dX7_put_96 rfl rfl ?_
        refine gy_ild (i := (13 + k)) hx hb hK hP 1 rfl (by omega) (by omega) dX7_put_97 ?_
        refine lv_iconst (v := 1) hx hb dX7_put_98 (by decide) ?_
        refine lv_bipush (v := 19) hx hb dX7_put_99 (by decide) ?_
        refine lv_iload_n hx hb dX7_put_101 rfl (lv_at hl 3 rfl) ?_
        refine lv_iadd hx hb dX7_put_102 ?_
        refine gx_top (y := nI (19 + x)) (nI_add 19 x) ?_
        refine lv_ishl hx hb dX7_put_103 ?_
        refine lv_ior hx hb dX7_put_104 ?_
        refine gy_ist (i := (13 + k)) hx hb hK hP hD hS 1 rfl (by omega) (by omega) dX7_put_105 (fun H locs hP hD hS => ?_)
        have hP : va_P D vwCl [(h0, .inr (7, [.ref a1])), (a1, .inl (cI, 34, .inl (upd (upd f (9 + x) v) (13 + k) (((upd f (9 + x) v) (13 + k)) ||| (1 <<< (((nI (19 + x)) : Int32) &&& 31))))))] H := hP
        have hD : va_D A [(h0, .inr (7, [.ref a1])), (a1, .inl (cI, 34, .inl (upd (upd f (9 + x) v) (13 + k) (((upd f (9 + x) v) (13 + k)) ||| (1 <<< (((nI (19 + x)) : Int32) &&& 31))))))] := hD
        exact gx_vret (w' := [(h0, .inr (7, [.ref a1])), (a1, .inl (cI, 34, .inl (upd (upd f (9 + x) v) (13 + k) (((upd f (9 + x) v) (13 + k)) ||| (1 <<< (((nI (19 + x)) : Int32) &&& 31))))))]) hx hb hr hlk hK hP hD hS (Nat.le_of_ble_eq_true rfl) (Nat.le_of_ble_eq_true rfl) dX7_put_106 ⟨(upd (upd f (9 + x) v) (13 + k) (((upd f (9 + x) v) (13 + k)) ||| (1 <<< (((nI (19 + x)) : Int32) &&& 31)))), (by unfold gPt gPm; first | rw [if_pos c_1, if_pos c_3, if_pos c_4] | rw [if_pos c_1, if_pos c_3, if_neg c_4] | rw [if_neg c_1, if_pos c_3] | rw [if_neg c_1, if_neg c_3]), rfl⟩
    · refine lv_aload_n hx hb dX7_put_20 rfl (lv_at hl 1 rfl) ?_
      refine va_get (D := D) (ci := 7) (v := .ref a1) (C := RX7) (T := TX7) (N := 1) hx hb hts (fun _ h => List.mem_cons_of_mem _ (List.mem_append_left _ (List.mem_append_right _ h))) hown hK hP 0 rfl rfl 0 (by decide) (hts (.fieldLink RX7 11 "LitmusHall$State" "words" "[I") (by decide +kernel)) (fun _ h9 => h9) rfl dX7_put_21 ?_
      refine lv_bipush (v := 16) hx hb dX7_put_24 (by decide) ?_
      refine lv_iload_n hx hb dX7_put_26 rfl (lv_at hl 2 rfl) ?_
      refine lv_bipush (v := 6) hx hb dX7_put_27 (by decide) ?_
      refine lv_imul hx hb dX7_put_29 ?_
      refine gx_top (y := nI (k * 6)) (pk_mul k 6) ?_
      refine lv_iadd hx hb dX7_put_30 ?_
      refine gx_top (y := nI (16 + (k * 6))) (nI_add 16 (k * 6)) ?_
      refine lv_iload hx hb dX7_put_31 (lv_at hl 0 rfl) ?_
      refine lv_iadd hx hb dX7_put_33 ?_
      refine gx_top (y := nI ((16 + (k * 6)) + (gSz (f (13 + k))))) (nI_add (16 + (k * 6)) (gSz (f (13 + k)))) ?_
      refine lv_iload_n hx hb dX7_put_34 rfl (lv_at hl 4 rfl) ?_
      refine gy_ist (i := ((16 + (k * 6)) + (gSz (f (13 + k))))) hx hb hK hP hD hS 1 rfl (by omega) (by omega) dX7_put_35 (fun H locs hP hD hS => ?_)
      have hP : va_P D vwCl [(h0, .inr (7, [.ref a1])), (a1, .inl (cI, 34, .inl (upd f ((16 + (k * 6)) + (gSz (f (13 + k)))) v)))] H := hP
      have hD : va_D A [(h0, .inr (7, [.ref a1])), (a1, .inl (cI, 34, .inl (upd f ((16 + (k * 6)) + (gSz (f (13 + k)))) v)))] := hD
      refine lv_aload_n hx hb dX7_put_36 rfl (lv_at hl 1 rfl) ?_
      refine va_get (D := D) (ci := 7) (v := .ref a1) (C := RX7) (T := TX7) (N := 1) hx hb hts (fun _ h => List.mem_cons_of_mem _ (List.mem_append_left _ (List.mem_append_right _ h))) hown hK hP 0 rfl rfl 0 (by decide) (hts (.fieldLink RX7 11 "LitmusHall$State" "words" "[I") (by decide +kernel)) (fun _ h9 => h9) rfl dX7_put_37 ?_
      refine lv_bipush (v := 13) hx hb dX7_put_40 (by decide) ?_
      refine lv_iload_n hx hb dX7_put_42 rfl (lv_at hl 2 rfl) ?_
      refine lv_iadd hx hb dX7_put_43 ?_
      refine gx_top (y := nI (13 + k)) (nI_add 13 k) ?_
      refine lv_dup2_11 hx hb dX7_put_44 rfl rfl ?_
      refine gy_ild (i := (13 + k)) hx hb hK hP 1 rfl (by omega) (by omega) dX7_put_45 ?_
      refine lv_bipush (v := 16) hx hb dX7_put_46 (by decide) ?_
      refine lv_iadd hx hb dX7_put_48 ?_
      refine gy_ist (i := (13 + k)) hx hb hK hP hD hS 1 rfl (by omega) (by omega) dX7_put_49 (fun H locs hP hD hS => ?_)
      have hP : va_P D vwCl [(h0, .inr (7, [.ref a1])), (a1, .inl (cI, 34, .inl (upd (upd f ((16 + (k * 6)) + (gSz (f (13 + k)))) v) (13 + k) (((upd f ((16 + (k * 6)) + (gSz (f (13 + k)))) v) (13 + k)) + 16))))] H := hP
      have hD : va_D A [(h0, .inr (7, [.ref a1])), (a1, .inl (cI, 34, .inl (upd (upd f ((16 + (k * 6)) + (gSz (f (13 + k)))) v) (13 + k) (((upd f ((16 + (k * 6)) + (gSz (f (13 + k)))) v) (13 + k)) + 16))))] := hD
      refine lv_aload_n hx hb dX7_put_50 rfl (lv_at hl 1 rfl) ?_
      refine va_get (D := D) (ci := 7) (v := .ref a1) (C := RX7) (T := TX7) (N := 1) hx hb hts (fun _ h => List.mem_cons_of_mem _ (List.mem_append_left _ (List.mem_append_right _ h))) hown hK hP 0 rfl rfl 0 (by decide) (hts (.fieldLink RX7 11 "LitmusHall$State" "words" "[I") (by decide +kernel)) (fun _ h9 => h9) rfl dX7_put_51 ?_
      refine lv_bipush (v := 13) hx hb dX7_put_54 (by decide) ?_
      refine lv_iload_n hx hb dX7_put_56 rfl (lv_at hl 2 rfl) ?_
      refine lv_iadd hx hb dX7_put_57 ?_
      refine gx_top (y := nI (13 + k)) (nI_add 13 k) ?_
      refine lv_dup2_11 hx hb dX7_put_58 rfl rfl ?_
      refine gy_ild (i := (13 + k)) hx hb hK hP 1 rfl (by omega) (by omega) dX7_put_59 ?_
      refine lv_iload_n hx hb dX7_put_60 rfl (lv_at hl 3 rfl) ?_
      refine lv_bipush (v := 7) hx hb dX7_put_61 (by decide) ?_
      refine lv_iconst (v := 2) hx hb dX7_put_63 (by decide) ?_
      refine lv_iload hx hb dX7_put_64 (lv_at hl 0 rfl) ?_
      refine lv_imul hx hb dX7_put_66 ?_
      refine gx_top (y := nI (2 * (gSz (f (13 + k))))) (pk_mul 2 (gSz (f (13 + k)))) ?_
      refine lv_iadd hx hb dX7_put_67 ?_
      refine gx_top (y := nI (7 + (2 * (gSz (f (13 + k)))))) (nI_add 7 (2 * (gSz (f (13 + k))))) ?_
      refine lv_ishl hx hb dX7_put_68 ?_
      refine lv_ior hx hb dX7_put_69 ?_
      refine gy_ist (i := (13 + k)) hx hb hK hP hD hS 1 rfl (by omega) (by omega) dX7_put_70 (fun H locs hP hD hS => ?_)
      have hP : va_P D vwCl [(h0, .inr (7, [.ref a1])), (a1, .inl (cI, 34, .inl (upd (upd (upd f ((16 + (k * 6)) + (gSz (f (13 + k)))) v) (13 + k) (((upd f ((16 + (k * 6)) + (gSz (f (13 + k)))) v) (13 + k)) + 16)) (13 + k) (((upd (upd f ((16 + (k * 6)) + (gSz (f (13 + k)))) v) (13 + k) (((upd f ((16 + (k * 6)) + (gSz (f (13 + k)))) v) (13 + k)) + 16)) (13 + k)) ||| ((nI x) <<< (((nI (7 + (2 * (gSz (f (13 + k)))))) : Int32) &&& 31))))))] H := hP
      have hD : va_D A [(h0, .inr (7, [.ref a1])), (a1, .inl (cI, 34, .inl (upd (upd (upd f ((16 + (k * 6)) + (gSz (f (13 + k)))) v) (13 + k) (((upd f ((16 + (k * 6)) + (gSz (f (13 + k)))) v) (13 + k)) + 16)) (13 + k) (((upd (upd f ((16 + (k * 6)) + (gSz (f (13 + k)))) v) (13 + k) (((upd f ((16 + (k * 6)) + (gSz (f (13 + k)))) v) (13 + k)) + 16)) (13 + k)) ||| ((nI x) <<< (((nI (7 + (2 * (gSz (f (13 + k)))))) : Int32) &&& 31))))))] := hD
      exact gx_vret (w' := [(h0, .inr (7, [.ref a1])), (a1, .inl (cI, 34, .inl (upd (upd (upd f ((16 + (k * 6)) + (gSz (f (13 + k)))) v) (13 + k) (((upd f ((16 + (k * 6)) + (gSz (f (13 + k)))) v) (13 + k)) + 16)) (13 + k) (((upd (upd f ((16 + (k * 6)) + (gSz (f (13 + k)))) v) (13 + k) (((upd f ((16 + (k * 6)) + (gSz (f (13 + k)))) v) (13 + k)) + 16)) (13 + k)) ||| ((nI x) <<< (((nI (7 + (2 * (gSz (f (13 + k)))))) : Int32) &&& 31))))))]) hx hb hr hlk hK hP hD hS (Nat.le_of_ble_eq_true rfl) (Nat.le_of_ble_eq_true rfl) dX7_put_71 ⟨(upd (upd (upd f ((16 + (k * 6)) + (gSz (f (13 + k)))) v) (13 + k) (((upd f ((16 + (k * 6)) + (gSz (f (13 + k)))) v) (13 + k)) + 16)) (13 + k) (((upd (upd f ((16 + (k * 6)) + (gSz (f (13 + k)))) v) (13 + k) (((upd f ((16 + (k * 6)) + (gSz (f (13 + k)))) v) (13 + k)) + 16)) (13 + k)) ||| ((nI x) <<< (((nI (7 + (2 * (gSz (f (13 + k)))))) : Int32) &&& 31)))), (by unfold gPt; rw [if_pos c_1, if_neg (by omega)]; rfl), rfl⟩
def wsP_e_forgetStored : List Cond := .code yX7_forgetStored cX7_forgetStored 2 none :: (([.fieldLink RX7 11 "LitmusHall$State" "words" "[I", .constant RX7 93 (-7864321)] ++ wsX70) ++ [])
theorem gW_e_forgetStored : wsP_e_forgetStored.all goodWord = true := by unfold wsP_e_forgetStored; exact gw_mk (by decide +kernel) rfl
set_option maxHeartbeats 4000000 in
set_option maxRecDepth 100000 in
theorem e_forgetStored (l : Launch) (D : va_G) (cI cB cZ : ClassId) (h0 : Nat) (a1 : Nat) (f : Nat → Int32) (k : Nat) (hk : k < 3) : gMv l yX7_forgetStored wsP_e_forgetStored ({ frames := 0, cells := 0, slots := 0, locals := 0 }) D cI cB cZ [] [.ref h0, .int (nI k)] [(h0, .inr (7, [.ref a1])), (a1, .inl (cI, 34, .inl f))] (fun w9 => w9 = [(h0, .inr (7, [.ref a1])), (a1, .inl (cI, 34, .inl (gFs f k)))]) := by
  refine gMv.of (cc := cX7_forgetStored) (maxL := 2) (ret := none) (by decide) rfl (Nat.le_of_ble_eq_true rfl) (fun p e s m below meth c A ls hx hb hr hlk hml hts hown hin hA hP hK hD hS hN hl => ?_)
  have hown : s.vm.findClass RX7 = some m.cls := hown
  have hl : lv_has ls 2 [(0, .ref h0), (1, .int (nI k))] := hl
  refine lv_aload_n hx hb dX7_forgetStored_0 rfl (lv_at hl 0 rfl) ?_
  refine va_get (D := D) (ci := 7) (v := .ref a1) (C := RX7) (T := TX7) (N := 1) hx hb hts (fun _ h => List.mem_cons_of_mem _ (List.mem_append_left _ (List.mem_append_right _ h))) hown hK hP 0 rfl rfl 0 (by decide) (hts (.fieldLink RX7 11 "LitmusHall$State" "words" "[I") (by decide +kernel)) (fun _ h9 => h9) rfl dX7_forgetStored_1 ?_
  refine lv_bipush (v := 13) hx hb dX7_forgetStored_4 (by decide) ?_
  refine lv_iload_n hx hb dX7_forgetStored_6 rfl (lv_at hl 1 rfl) ?_
  refine lv_iadd hx hb dX7_forgetStored_7 ?_
  refine gx_top (y := nI (13 + k)) (nI_add 13 k) ?_
  refine lv_dup2_11 hx hb dX7_forgetStored_8 rfl rfl ?_
  refine gy_ild (i := (13 + k)) hx hb hK hP 1 rfl (by omega) (by omega) dX7_forgetStored_9 ?_
  refine lv_ldc hx hb hown (hts (.constant RX7 93 (-7864321)) (by decide +kernel)) dX7_forgetStored_10 ?_
  refine lv_iand hx hb dX7_forgetStored_12 ?_
  refine gy_ist (i := (13 + k)) hx hb hK hP hD hS 1 rfl (by omega) (by omega) dX7_forgetStored_13 (fun H locs hP hD hS => ?_)
  have hP : va_P D vwCl [(h0, .inr (7, [.ref a1])), (a1, .inl (cI, 34, .inl (upd f (13 + k) ((f (13 + k)) &&& (-7864321)))))] H := hP
  have hD : va_D A [(h0, .inr (7, [.ref a1])), (a1, .inl (cI, 34, .inl (upd f (13 + k) ((f (13 + k)) &&& (-7864321)))))] := hD
  exact gx_vret (w' := [(h0, .inr (7, [.ref a1])), (a1, .inl (cI, 34, .inl (gFs f k)))]) hx hb hr hlk hK hP hD hS (Nat.le_of_ble_eq_true rfl) (Nat.le_of_ble_eq_true rfl) dX7_forgetStored_14 rfl
def wsP_e_letGo : List Cond := .code yX7_letGo cX7_letGo 5 none :: (([.fieldLink RX7 11 "LitmusHall$State" "words" "[I", .methodLink RX7 86 yX7_rowCell, .instanceMethod yX7_rowCell, .selects RX7 yX7_rowCell yX7_rowCell, .initialized RX7, .methodLink RX7 30 arraycopyName, .native arraycopyName, .static arraycopyName, .initialized "java/lang/System", .constant RX7 89 (-524161)] ++ wsX70) ++ (wsP_e_rowCell ++ []))
theorem gW_e_letGo : wsP_e_letGo.all goodWord = true := by unfold wsP_e_letGo; exact gw_mk (by decide +kernel) (gw_app gW_e_rowCell rfl)
set_option maxRecDepth 20000 in
theorem gP_e_letGo__e_rowCell : GoodIn wsP_e_letGo (wsV RX7 86 RX7 yX7_rowCell wsP_e_rowCell) := gw_in (pre := [.methodLink RX7 86 yX7_rowCell, .instanceMethod yX7_rowCell, .selects RX7 yX7_rowCell yX7_rowCell, .initialized RX7]) (by decide +kernel) (fun _ h => List.mem_cons_of_mem _ (List.mem_append_right _ (List.mem_append_left _ h))) gW_e_rowCell
set_option maxHeartbeats 4000000 in
set_option maxRecDepth 100000 in
theorem e_letGo (l : Launch) (D : va_G) (cI cB cZ : ClassId) (h0 : Nat) (a1 : Nat) (f : Nat → Int32) (k : Nat) (hk : k < 3) : gMv l yX7_letGo wsP_e_letGo ({ frames := 1, cells := 0, slots := 0, locals := 40 }) D cI cB cZ [] [.ref h0, .int (nI k)] [(h0, .inr (7, [.ref a1])), (a1, .inl (cI, 34, .inl f))] (fun w9 => w9 = [(h0, .inr (7, [.ref a1])), (a1, .inl (cI, 34, .inl (gLg f k)))]) := by
  refine gMv.of (cc := cX7_letGo) (maxL := 5) (ret := none) (by decide) rfl (Nat.le_of_ble_eq_true rfl) (fun p e s m below meth c A ls hx hb hr hlk hml hts hown hin hA hP hK hD hS hN hl => ?_)
  have hown : s.vm.findClass RX7 = some m.cls := hown
  have hl : lv_has ls 5 [(0, .ref h0), (1, .int (nI k))] := hl
  refine lv_bipush (v := 16) hx hb dX7_letGo_0 (by decide) ?_
  refine lv_iload_n hx hb dX7_letGo_2 rfl (lv_at hl 1 rfl) ?_
  refine lv_bipush (v := 6) hx hb dX7_letGo_3 (by decide) ?_
  refine lv_imul hx hb dX7_letGo_5 ?_
  refine gx_top (y := nI (k * 6)) (pk_mul k 6) ?_
  refine lv_iadd hx hb dX7_letGo_6 ?_
  refine gx_top (y := nI (16 + (k * 6))) (nI_add 16 (k * 6)) ?_
  refine lv_istore_n (lv' := [(2, .int (nI (16 + (k * 6)))), (0, .ref h0), (1, .int (nI k))]) hx hb dX7_letGo_7 rfl hl (by decide) rfl (fun ls hl => ?_)
  refine lv_aload_n hx hb dX7_letGo_8 rfl (lv_at hl 1 rfl) ?_
  refine va_get (D := D) (ci := 7) (v := .ref a1) (C := RX7) (T := TX7) (N := 1) hx hb hts (fun _ h => List.mem_cons_of_mem _ (List.mem_append_left _ (List.mem_append_right _ h))) hown hK hP 0 rfl rfl 0 (by decide) (hts (.fieldLink RX7 11 "LitmusHall$State" "words" "[I") (by decide +kernel)) (fun _ h9 => h9) rfl dX7_letGo_9 ?_
  refine lv_bipush (v := 13) hx hb dX7_letGo_12 (by decide) ?_
  refine lv_iload_n hx hb dX7_letGo_14 rfl (lv_at hl 2 rfl) ?_
  refine lv_iadd hx hb dX7_letGo_15 ?_
  refine gx_top (y := nI (13 + k)) (nI_add 13 k) ?_
  refine gy_ild (i := (13 + k)) hx hb hK hP 1 rfl (by omega) (by omega) dX7_letGo_16 ?_
  refine lv_istore_n (lv' := [(3, .int (f (13 + k))), (2, .int (nI (16 + (k * 6)))), (0, .ref h0), (1, .int (nI k))]) hx hb dX7_letGo_17 rfl hl (by decide) rfl (fun ls hl => ?_)
  refine lv_aload_n hx hb dX7_letGo_18 rfl (lv_at hl 2 rfl) ?_
  refine va_get (D := D) (ci := 7) (v := .ref a1) (C := RX7) (T := TX7) (N := 1) hx hb hts (fun _ h => List.mem_cons_of_mem _ (List.mem_append_left _ (List.mem_append_right _ h))) hown hK hP 0 rfl rfl 0 (by decide) (hts (.fieldLink RX7 11 "LitmusHall$State" "words" "[I") (by decide +kernel)) (fun _ h9 => h9) rfl dX7_letGo_19 ?_
  refine lv_bipush (v := 9) hx hb dX7_letGo_22 (by decide) ?_
  refine lv_aload_n hx hb dX7_letGo_24 rfl (lv_at hl 2 rfl) ?_
  refine lv_iload_n hx hb dX7_letGo_25 rfl (lv_at hl 3 rfl) ?_
  refine lv_iconst (v := 0) hx hb dX7_letGo_26 (by decide) ?_
  have hcl := gCl_lt (f (13 + k)) 0
  refine gx_goi (wc := [(h0, .inr (7, [.ref a1])), (a1, .inl (cI, 34, .inl f))]) (wr := []) (va_runV (As := [.int (nI k), .int 0]) (rest := [.int 9, .ref a1]) ⟨hx, hb, hml, hown, hts⟩ (e_rowCell l D cI cB cZ h0 a1 f k 0 (by omega) _) (cwV 2 hts gP_e_letGo__e_rowCell rfl rfl rfl (by decide +kernel) ⟨Nat.le_of_ble_eq_true rfl, Nat.le_of_ble_eq_true rfl⟩) (gx_preV (ci := 7) (q0 := 0) hK gN.nil hP hD [0, 1] rfl rfl rfl rfl) rfl rfl hl.1 rfl (lv_room (Nat.le_of_ble_eq_true rfl)) dX7_letGo_27 ⟨Nat.le_of_ble_eq_true rfl, Nat.le_of_ble_eq_true rfl⟩) hP hD hS hA [0, 1] [] rfl rfl rfl (by decide) (fun r1 w1 H locs hp hP hD hS => ?_)
  obtain ⟨h9, rfl⟩ := hp
  have h9 := h9.symm
  subst h9
  refine lv_iadd hx hb dX7_letGo_30 ?_
  refine gx_top (y := nI (9 + (gCl (f (13 + k)) 0))) (nI_add 9 (gCl (f (13 + k)) 0)) ?_
  refine lv_aload_n hx hb dX7_letGo_31 rfl (lv_at hl 2 rfl) ?_
  refine va_get (D := D) (ci := 7) (v := .ref a1) (C := RX7) (T := TX7) (N := 1) hx hb hts (fun _ h => List.mem_cons_of_mem _ (List.mem_append_left _ (List.mem_append_right _ h))) hown hK hP 0 rfl rfl 0 (by decide) (hts (.fieldLink RX7 11 "LitmusHall$State" "words" "[I") (by decide +kernel)) (fun _ h9 => h9) rfl dX7_letGo_32 ?_
  refine lv_iload_n hx hb dX7_letGo_35 rfl (lv_at hl 1 rfl) ?_
  refine gy_ild (i := (16 + (k * 6))) hx hb hK hP 1 rfl (by omega) (by omega) dX7_letGo_36 ?_
  refine gy_ist (i := (9 + (gCl (f (13 + k)) 0))) hx hb hK hP hD hS 1 rfl (by omega) (by omega) dX7_letGo_37 (fun H locs hP hD hS => ?_)
  have hP : va_P D vwCl [(h0, .inr (7, [.ref a1])), (a1, .inl (cI, 34, .inl (upd f (9 + (gCl (f (13 + k)) 0)) (f (16 + (k * 6))))))] H := hP
  have hD : va_D A [(h0, .inr (7, [.ref a1])), (a1, .inl (cI, 34, .inl (upd f (9 + (gCl (f (13 + k)) 0)) (f (16 + (k * 6))))))] := hD
  refine lv_aload_n hx hb dX7_letGo_38 rfl (lv_at hl 2 rfl) ?_
  refine va_get (D := D) (ci := 7) (v := .ref a1) (C := RX7) (T := TX7) (N := 1) hx hb hts (fun _ h => List.mem_cons_of_mem _ (List.mem_append_left _ (List.mem_append_right _ h))) hown hK hP 0 rfl rfl 0 (by decide) (hts (.fieldLink RX7 11 "LitmusHall$State" "words" "[I") (by decide +kernel)) (fun _ h9 => h9) rfl dX7_letGo_39 ?_
  refine lv_iload_n hx hb dX7_letGo_42 rfl (lv_at hl 1 rfl) ?_
  refine lv_iconst (v := 1) hx hb dX7_letGo_43 (by decide) ?_
  refine lv_iadd hx hb dX7_letGo_44 ?_
  refine gx_top (y := nI ((16 + (k * 6)) + 1)) (nI_add (16 + (k * 6)) 1) ?_
  refine lv_aload_n hx hb dX7_letGo_45 rfl (lv_at hl 2 rfl) ?_
  refine va_get (D := D) (ci := 7) (v := .ref a1) (C := RX7) (T := TX7) (N := 1) hx hb hts (fun _ h => List.mem_cons_of_mem _ (List.mem_append_left _ (List.mem_append_right _ h))) hown hK hP 0 rfl rfl 0 (by decide) (hts (.fieldLink RX7 11 "LitmusHall$State" "words" "[I") (by decide +kernel)) (fun _ h9 => h9) rfl dX7_letGo_46 ?_
  refine lv_iload_n hx hb dX7_letGo_49 rfl (lv_at hl 1 rfl) ?_
  refine lv_iconst (v := 5) hx hb dX7_letGo_50 (by decide) ?_
  refine gy_copyi (sp := ((16 + (k * 6)) + 1)) (dp := (16 + (k * 6))) (n := 5) hx hb (hml.trans hl.1.symm) hown (hts (.methodLink RX7 30 arraycopyName) (by decide +kernel)) (hts (.native arraycopyName) (by decide +kernel)) (hts (.static arraycopyName) (by decide +kernel)) (hts (.initialized "java/lang/System") (by decide +kernel)) hK hP hD hS 1 1 rfl rfl (by omega) (by omega) (by omega) (by omega) (by omega) (Nat.le_of_ble_eq_true rfl) (Nat.le_of_ble_eq_true rfl) dX7_letGo_51 (fun H locs hP hD hS => ?_)
  have hP : va_P D vwCl [(h0, .inr (7, [.ref a1])), (a1, .inl (cI, 34, .inl (va_cpy (upd f (9 + (gCl (f (13 + k)) 0)) (f (16 + (k * 6)))) (upd f (9 + (gCl (f (13 + k)) 0)) (f (16 + (k * 6)))) ((16 + (k * 6)) + 1) (16 + (k * 6)) 5)))] H := hP
  have hD : va_D A [(h0, .inr (7, [.ref a1])), (a1, .inl (cI, 34, .inl (va_cpy (upd f (9 + (gCl (f (13 + k)) 0)) (f (16 + (k * 6)))) (upd f (9 + (gCl (f (13 + k)) 0)) (f (16 + (k * 6)))) ((16 + (k * 6)) + 1) (16 + (k * 6)) 5)))] := hD
  refine lv_aload_n hx hb dX7_letGo_54 rfl (lv_at hl 2 rfl) ?_
  refine va_get (D := D) (ci := 7) (v := .ref a1) (C := RX7) (T := TX7) (N := 1) hx hb hts (fun _ h => List.mem_cons_of_mem _ (List.mem_append_left _ (List.mem_append_right _ h))) hown hK hP 0 rfl rfl 0 (by decide) (hts (.fieldLink RX7 11 "LitmusHall$State" "words" "[I") (by decide +kernel)) (fun _ h9 => h9) rfl dX7_letGo_55 ?_
  refine lv_iload_n hx hb dX7_letGo_58 rfl (lv_at hl 1 rfl) ?_
  refine lv_bipush (v := 6) hx hb dX7_letGo_59 (by decide) ?_
  refine lv_iadd hx hb dX7_letGo_61 ?_
  refine gx_top (y := nI ((16 + (k * 6)) + 6)) (nI_add (16 + (k * 6)) 6) ?_
  refine lv_iconst (v := 1) hx hb dX7_letGo_62 (by decide) ?_
  refine lv_isub hx hb dX7_letGo_63 ?_
  refine gx_top (y := nI (((16 + (k * 6)) + 6) - 1)) (pk_sub (a := (16 + (k * 6)) + 6) (b := 1) (by omega)) ?_
  refine lv_iconst (v := 0) hx hb dX7_letGo_64 (by decide) ?_
  refine gy_ist (i := (((16 + (k * 6)) + 6) - 1)) hx hb hK hP hD hS 1 rfl (by omega) (by omega) dX7_letGo_65 (fun H locs hP hD hS => ?_)
  have hP : va_P D vwCl [(h0, .inr (7, [.ref a1])), (a1, .inl (cI, 34, .inl (upd (va_cpy (upd f (9 + (gCl (f (13 + k)) 0)) (f (16 + (k * 6)))) (upd f (9 + (gCl (f (13 + k)) 0)) (f (16 + (k * 6)))) ((16 + (k * 6)) + 1) (16 + (k * 6)) 5) (((16 + (k * 6)) + 6) - 1) 0)))] H := hP
  have hD : va_D A [(h0, .inr (7, [.ref a1])), (a1, .inl (cI, 34, .inl (upd (va_cpy (upd f (9 + (gCl (f (13 + k)) 0)) (f (16 + (k * 6)))) (upd f (9 + (gCl (f (13 + k)) 0)) (f (16 + (k * 6)))) ((16 + (k * 6)) + 1) (16 + (k * 6)) 5) (((16 + (k * 6)) + 6) - 1) 0)))] := hD
  refine lv_iload_n hx hb dX7_letGo_66 rfl (lv_at hl 0 rfl) ?_
  refine lv_bipush (v := 7) hx hb dX7_letGo_67 (by decide) ?_
  refine lv_ishr hx hb dX7_letGo_69 ?_
  refine lv_sipush (v := 4095) hx hb dX7_letGo_70 (by decide) ?_
  refine lv_iand hx hb dX7_letGo_73 ?_
  refine gx_top (pk_and ((f (13 + k)) >>> ((7 : Int32) &&& 31)) (m := 4095) 12 (by decide +kernel)) ?_
  have hj1 : ((f (13 + k)) >>> ((7 : Int32) &&& 31)).toBitVec.toNat % 4096 < 4096 := Nat.mod_lt _ (by decide)
  refine lv_iconst (v := 2) hx hb dX7_letGo_74 (by decide) ?_
  refine lv_ishr hx hb dX7_letGo_75 ?_
  refine lv_istore (lv' := [(4, .int ((nI (((f (13 + k)) >>> ((7 : Int32) &&& 31)).toBitVec.toNat % 4096)) >>> ((2 : Int32) &&& 31))), (3, .int (f (13 + k))), (2, .int (nI (16 + (k * 6)))), (0, .ref h0), (1, .int (nI k))]) hx hb dX7_letGo_76 hl (by decide) rfl (fun ls hl => ?_)
  refine lv_iload_n hx hb dX7_letGo_78 rfl (lv_at hl 1 rfl) ?_
  refine lv_ldc hx hb hown (hts (.constant RX7 89 (-524161)) (by decide +kernel)) dX7_letGo_79 ?_
  refine lv_iand hx hb dX7_letGo_81 ?_
  refine lv_iload hx hb dX7_letGo_82 (lv_at hl 0 rfl) ?_
  refine lv_bipush (v := 7) hx hb dX7_letGo_84 (by decide) ?_
  refine lv_ishl hx hb dX7_letGo_86 ?_
  refine lv_ior hx hb dX7_letGo_87 ?_
  refine lv_istore_n (lv' := [(3, .int (((f (13 + k)) &&& (-524161)) ||| (((nI (((f (13 + k)) >>> ((7 : Int32) &&& 31)).toBitVec.toNat % 4096)) >>> ((2 : Int32) &&& 31)) <<< ((7 : Int32) &&& 31)))), (4, .int ((nI (((f (13 + k)) >>> ((7 : Int32) &&& 31)).toBitVec.toNat % 4096)) >>> ((2 : Int32) &&& 31))), (2, .int (nI (16 + (k * 6)))), (0, .ref h0), (1, .int (nI k))]) hx hb dX7_letGo_88 rfl hl (by decide) rfl (fun ls hl => ?_)
  refine lv_aload_n hx hb dX7_letGo_89 rfl (lv_at hl 3 rfl) ?_
  refine va_get (D := D) (ci := 7) (v := .ref a1) (C := RX7) (T := TX7) (N := 1) hx hb hts (fun _ h => List.mem_cons_of_mem _ (List.mem_append_left _ (List.mem_append_right _ h))) hown hK hP 0 rfl rfl 0 (by decide) (hts (.fieldLink RX7 11 "LitmusHall$State" "words" "[I") (by decide +kernel)) (fun _ h9 => h9) rfl dX7_letGo_90 ?_
  refine lv_bipush (v := 13) hx hb dX7_letGo_93 (by decide) ?_
  refine lv_iload_n hx hb dX7_letGo_95 rfl (lv_at hl 4 rfl) ?_
  refine lv_iadd hx hb dX7_letGo_96 ?_
  refine gx_top (y := nI (13 + k)) (nI_add 13 k) ?_
  refine lv_iload_n hx hb dX7_letGo_97 rfl (lv_at hl 0 rfl) ?_
  refine lv_bipush (v := 16) hx hb dX7_letGo_98 (by decide) ?_
  refine lv_isub hx hb dX7_letGo_100 ?_
  refine gy_ist (i := (13 + k)) hx hb hK hP hD hS 1 rfl (by omega) (by omega) dX7_letGo_101 (fun H locs hP hD hS => ?_)
  have hP : va_P D vwCl [(h0, .inr (7, [.ref a1])), (a1, .inl (cI, 34, .inl (upd (upd (va_cpy (upd f (9 + (gCl (f (13 + k)) 0)) (f (16 + (k * 6)))) (upd f (9 + (gCl (f (13 + k)) 0)) (f (16 + (k * 6)))) ((16 + (k * 6)) + 1) (16 + (k * 6)) 5) (((16 + (k * 6)) + 6) - 1) 0) (13 + k) ((((f (13 + k)) &&& (-524161)) ||| (((nI (((f (13 + k)) >>> ((7 : Int32) &&& 31)).toBitVec.toNat % 4096)) >>> ((2 : Int32) &&& 31)) <<< ((7 : Int32) &&& 31))) - 16))))] H := hP
  have hD : va_D A [(h0, .inr (7, [.ref a1])), (a1, .inl (cI, 34, .inl (upd (upd (va_cpy (upd f (9 + (gCl (f (13 + k)) 0)) (f (16 + (k * 6)))) (upd f (9 + (gCl (f (13 + k)) 0)) (f (16 + (k * 6)))) ((16 + (k * 6)) + 1) (16 + (k * 6)) 5) (((16 + (k * 6)) + 6) - 1) 0) (13 + k) ((((f (13 + k)) &&& (-524161)) ||| (((nI (((f (13 + k)) >>> ((7 : Int32) &&& 31)).toBitVec.toNat % 4096)) >>> ((2 : Int32) &&& 31)) <<< ((7 : Int32) &&& 31))) - 16))))] := hD
  exact gx_vret (w' := [(h0, .inr (7, [.ref a1])), (a1, .inl (cI, 34, .inl (gLg f k)))]) hx hb hr hlk hK hP hD hS (Nat.le_of_ble_eq_true rfl) (Nat.le_of_ble_eq_true rfl) dX7_letGo_102 rfl
def wsP_e_lock : List Cond := .code yX7_lock cX7_lock 11 none :: (([.methodLink RX7 71 yX7_valueOf, .instanceMethod yX7_valueOf, .selects RX7 yX7_valueOf yX7_valueOf, .initialized RX7, .fieldLink RX7 11 "LitmusHall$State" "words" "[I"] ++ wsX70) ++ (wsP_e_valueOf ++ []))
theorem gW_e_lock : wsP_e_lock.all goodWord = true := by unfold wsP_e_lock; exact gw_mk (by decide +kernel) (gw_app gW_e_valueOf rfl)
set_option maxRecDepth 20000 in
theorem gP_e_lock__e_valueOf : GoodIn wsP_e_lock (wsV RX7 71 RX7 yX7_valueOf wsP_e_valueOf) := gw_in (pre := [.methodLink RX7 71 yX7_valueOf, .instanceMethod yX7_valueOf, .selects RX7 yX7_valueOf yX7_valueOf, .initialized RX7]) (by decide +kernel) (fun _ h => List.mem_cons_of_mem _ (List.mem_append_right _ (List.mem_append_left _ h))) gW_e_valueOf
set_option maxHeartbeats 4000000 in
set_option maxRecDepth 100000 in
theorem e_lock (l : Launch) (D : va_G) (cI cB cZ : ClassId) (h0 : Nat) (a1 : Nat) (f : Nat → Int32) (b3 : Nat) (pf : Nat → Int32) (n : Nat) (k : Nat) (x : Nat) (r : Nat) (hn : n + 8 ≤ 192) (hk : k < 3) (hx0 : x < 4) (hr0 : r < 3) (hcell : pf (n + 1) = nI x) (hrg : pf (n + 2) = nI r) (h3 : pf (n + 3) = (-1) ∨ ∃ r, r < 3 ∧ pf (n + 3) = nI r) (h5 : pf (n + 5) = (-1) ∨ ∃ r, r < 3 ∧ pf (n + 5) = nI r) : gMv l yX7_lock wsP_e_lock ({ frames := 1, cells := 0, slots := 0, locals := 24 }) D cI cB cZ [] [.ref h0, .ref b3, .int (nI n), .int (nI k)] [(h0, .inr (7, [.ref a1])), (a1, .inl (cI, 34, .inl f)), (b3, .inl (cI, 192, .inl pf))] (fun w9 => ∃ g : Nat → Int32, (g = gLk f (9 + x) ((k * 3) + r) (pf (n + 0)) (gVl pf f (n + 3) k) (gVl pf f (n + 5) k)) ∧ w9 = [(h0, .inr (7, [.ref a1])), (a1, .inl (cI, 34, .inl g)), (b3, .inl (cI, 192, .inl pf))]) := by
  refine gMv.of (cc := cX7_lock) (maxL := 11) (ret := none) (by decide) rfl (Nat.le_of_ble_eq_true rfl) (fun p e s m below meth c A ls hx hb hr hlk hml hts hown hin hA hP hK hD hS hN hl => ?_)
  have hown : s.vm.findClass RX7 = some m.cls := hown
  have hl : lv_has ls 11 [(0, .ref h0), (1, .ref b3), (2, .int (nI n)), (3, .int (nI k))] := hl
  refine lv_aload_n hx hb dX7_lock_0 rfl (lv_at hl 1 rfl) ?_
  refine lv_iload_n hx hb dX7_lock_1 rfl (lv_at hl 2 rfl) ?_
  refine lv_iconst (v := 0) hx hb dX7_lock_2 (by decide) ?_
  refine lv_iadd hx hb dX7_lock_3 ?_
  refine gx_top (y := nI (n + 0)) (nI_add n 0) ?_
  refine gy_ild (i := (n + 0)) hx hb hK hP 2 rfl (by omega) (by omega) dX7_lock_4 ?_
  refine lv_istore (lv' := [(4, .int (pf (n + 0))), (0, .ref h0), (1, .ref b3), (2, .int (nI n)), (3, .int (nI k))]) hx hb dX7_lock_5 hl (by decide) rfl (fun ls hl => ?_)
  refine lv_bipush (v := 9) hx hb dX7_lock_7 (by decide) ?_
  refine lv_aload_n hx hb dX7_lock_9 rfl (lv_at hl 2 rfl) ?_
  refine lv_iload_n hx hb dX7_lock_10 rfl (lv_at hl 3 rfl) ?_
  refine lv_iconst (v := 1) hx hb dX7_lock_11 (by decide) ?_
  refine lv_iadd hx hb dX7_lock_12 ?_
  refine gx_top (y := nI (n + 1)) (nI_add n 1) ?_
  refine gy_ild (i := (n + 1)) hx hb hK hP 2 rfl (by omega) (by omega) dX7_lock_13 ?_
  refine gx_top (y := nI x) hcell ?_
  refine lv_iadd hx hb dX7_lock_14 ?_
  refine gx_top (y := nI (9 + x)) (nI_add 9 x) ?_
  refine lv_istore (lv' := [(5, .int (nI (9 + x))), (4, .int (pf (n + 0))), (0, .ref h0), (1, .ref b3), (2, .int (nI n)), (3, .int (nI k))]) hx hb dX7_lock_15 hl (by decide) rfl (fun ls hl => ?_)
  refine lv_iload_n hx hb dX7_lock_17 rfl (lv_at hl 5 rfl) ?_
  refine lv_iconst (v := 3) hx hb dX7_lock_18 (by decide) ?_
  refine lv_imul hx hb dX7_lock_19 ?_
  refine gx_top (y := nI (k * 3)) (pk_mul k 3) ?_
  refine lv_aload_n hx hb dX7_lock_20 rfl (lv_at hl 3 rfl) ?_
  refine lv_iload_n hx hb dX7_lock_21 rfl (lv_at hl 4 rfl) ?_
  refine lv_iconst (v := 2) hx hb dX7_lock_22 (by decide) ?_
  refine lv_iadd hx hb dX7_lock_23 ?_
  refine gx_top (y := nI (n + 2)) (nI_add n 2) ?_
  refine gy_ild (i := (n + 2)) hx hb hK hP 2 rfl (by omega) (by omega) dX7_lock_24 ?_
  refine gx_top (y := nI r) hrg ?_
  refine lv_iadd hx hb dX7_lock_25 ?_
  refine gx_top (y := nI ((k * 3) + r)) (nI_add (k * 3) r) ?_
  refine lv_istore (lv' := [(6, .int (nI ((k * 3) + r))), (5, .int (nI (9 + x))), (4, .int (pf (n + 0))), (0, .ref h0), (1, .ref b3), (2, .int (nI n)), (3, .int (nI k))]) hx hb dX7_lock_26 hl (by decide) rfl (fun ls hl => ?_)
  refine lv_aload_n hx hb dX7_lock_28 rfl (lv_at hl 3 rfl) ?_
  refine lv_aload_n hx hb dX7_lock_29 rfl (lv_at hl 4 rfl) ?_
  refine lv_iload_n hx hb dX7_lock_30 rfl (lv_at hl 5 rfl) ?_
  refine lv_iconst (v := 3) hx hb dX7_lock_31 (by decide) ?_
  refine lv_iadd hx hb dX7_lock_32 ?_
  refine gx_top (y := nI (n + 3)) (nI_add n 3) ?_
  refine lv_iload_n hx hb dX7_lock_33 rfl (lv_at hl 6 rfl) ?_
  refine gx_goi (wc := [(h0, .inr (7, [.ref a1])), (a1, .inl (cI, 34, .inl f)), (b3, .inl (cI, 192, .inl pf))]) (wr := []) (va_runV (As := [.ref b3, .int (nI (n + 3)), .int (nI k)]) (rest := []) ⟨hx, hb, hml, hown, hts⟩ (e_valueOf l D cI cB cZ h0 a1 f b3 pf (n + 3) k (by omega) (by omega) h3 _) (cwV 3 hts gP_e_lock__e_valueOf rfl rfl rfl (by decide +kernel) ⟨Nat.le_of_ble_eq_true rfl, Nat.le_of_ble_eq_true rfl⟩) (gx_preV (ci := 7) (q0 := 0) hK gN.nil hP hD [0, 1, 2] rfl rfl rfl rfl) rfl rfl hl.1 rfl (lv_room (Nat.le_of_ble_eq_true rfl)) dX7_lock_34 ⟨Nat.le_of_ble_eq_true rfl, Nat.le_of_ble_eq_true rfl⟩) hP hD hS hA [0, 1, 2] [] rfl rfl rfl (by decide) (fun r1 w1 H locs hp hP hD hS => ?_)
  obtain ⟨h9, rfl⟩ := hp
  have h9 := h9.symm
  subst h9
  refine lv_istore (lv' := [(7, .int (gVl pf f (n + 3) k)), (6, .int (nI ((k * 3) + r))), (5, .int (nI (9 + x))), (4, .int (pf (n + 0))), (0, .ref h0), (1, .ref b3), (2, .int (nI n)), (3, .int (nI k))]) hx hb dX7_lock_37 hl (by decide) rfl (fun ls hl => ?_)
  refine lv_aload_n hx hb dX7_lock_39 rfl (lv_at hl 4 rfl) ?_
  refine lv_aload_n hx hb dX7_lock_40 rfl (lv_at hl 5 rfl) ?_
  refine lv_iload_n hx hb dX7_lock_41 rfl (lv_at hl 6 rfl) ?_
  refine lv_iconst (v := 5) hx hb dX7_lock_42 (by decide) ?_
  refine lv_iadd hx hb dX7_lock_43 ?_
  refine gx_top (y := nI (n + 5)) (nI_add n 5) ?_
  refine lv_iload_n hx hb dX7_lock_44 rfl (lv_at hl 7 rfl) ?_
  refine gx_goi (wc := [(h0, .inr (7, [.ref a1])), (a1, .inl (cI, 34, .inl f)), (b3, .inl (cI, 192, .inl pf))]) (wr := []) (va_runV (As := [.ref b3, .int (nI (n + 5)), .int (nI k)]) (rest := []) ⟨hx, hb, hml, hown, hts⟩ (e_valueOf l D cI cB cZ h0 a1 f b3 pf (n + 5) k (by omega) (by omega) h5 _) (cwV 3 hts gP_e_lock__e_valueOf rfl rfl rfl (by decide +kernel) ⟨Nat.le_of_ble_eq_true rfl, Nat.le_of_ble_eq_true rfl⟩) (gx_preV (ci := 7) (q0 := 0) hK gN.nil hP hD [0, 1, 2] rfl rfl rfl rfl) rfl rfl hl.1 rfl (lv_room (Nat.le_of_ble_eq_true rfl)) dX7_lock_45 ⟨Nat.le_of_ble_eq_true rfl, Nat.le_of_ble_eq_true rfl⟩) hP hD hS hA [0, 1, 2] [] rfl rfl rfl (by decide) (fun r1 w1 H locs hp hP hD hS => ?_)
  obtain ⟨h9, rfl⟩ := hp
  have h9 := h9.symm
  subst h9
  refine lv_istore (lv' := [(8, .int (gVl pf f (n + 5) k)), (7, .int (gVl pf f (n + 3) k)), (6, .int (nI ((k * 3) + r))), (5, .int (nI (9 + x))), (4, .int (pf (n + 0))), (0, .ref h0), (1, .ref b3), (2, .int (nI n)), (3, .int (nI k))]) hx hb dX7_lock_48 hl (by decide) rfl (fun ls hl => ?_)
  refine lv_aload_n hx hb dX7_lock_50 rfl (lv_at hl 5 rfl) ?_
  refine va_get (D := D) (ci := 7) (v := .ref a1) (C := RX7) (T := TX7) (N := 1) hx hb hts (fun _ h => List.mem_cons_of_mem _ (List.mem_append_left _ (List.mem_append_right _ h))) hown hK hP 0 rfl rfl 0 (by decide) (hts (.fieldLink RX7 11 "LitmusHall$State" "words" "[I") (by decide +kernel)) (fun _ h9 => h9) rfl dX7_lock_51 ?_
  refine lv_iload hx hb dX7_lock_54 (lv_at hl 3 rfl) ?_
  refine gy_ild (i := (9 + x)) hx hb hK hP 1 rfl (by omega) (by omega) dX7_lock_56 ?_
  refine lv_istore (lv' := [(9, .int (f (9 + x))), (8, .int (gVl pf f (n + 5) k)), (7, .int (gVl pf f (n + 3) k)), (6, .int (nI ((k * 3) + r))), (5, .int (nI (9 + x))), (4, .int (pf (n + 0))), (0, .ref h0), (1, .ref b3), (2, .int (nI n)), (3, .int (nI k))]) hx hb dX7_lock_57 hl (by decide) rfl (fun ls hl => ?_)
  refine lv_aload_n hx hb dX7_lock_59 rfl (lv_at hl 6 rfl) ?_
  refine va_get (D := D) (ci := 7) (v := .ref a1) (C := RX7) (T := TX7) (N := 1) hx hb hts (fun _ h => List.mem_cons_of_mem _ (List.mem_append_left _ (List.mem_append_right _ h))) hown hK hP 0 rfl rfl 0 (by decide) (hts (.fieldLink RX7 11 "LitmusHall$State" "words" "[I") (by decide +kernel)) (fun _ h9 => h9) rfl dX7_lock_60 ?_
  refine lv_iload hx hb dX7_lock_63 (lv_at hl 3 rfl) ?_
  refine gy_ild (i := ((k * 3) + r)) hx hb hK hP 1 rfl (by omega) (by omega) dX7_lock_65 ?_
  refine lv_istore (lv' := [(10, .int (f ((k * 3) + r))), (9, .int (f (9 + x))), (8, .int (gVl pf f (n + 5) k)), (7, .int (gVl pf f (n + 3) k)), (6, .int (nI ((k * 3) + r))), (5, .int (nI (9 + x))), (4, .int (pf (n + 0))), (0, .ref h0), (1, .ref b3), (2, .int (nI n)), (3, .int (nI k))]) hx hb dX7_lock_66 hl (by decide) rfl (fun ls hl => ?_)
  refine lv_aload_n hx hb dX7_lock_68 rfl (lv_at hl 7 rfl) ?_
  refine va_get (D := D) (ci := 7) (v := .ref a1) (C := RX7) (T := TX7) (N := 1) hx hb hts (fun _ h => List.mem_cons_of_mem _ (List.mem_append_left _ (List.mem_append_right _ h))) hown hK hP 0 rfl rfl 0 (by decide) (hts (.fieldLink RX7 11 "LitmusHall$State" "words" "[I") (by decide +kernel)) (fun _ h9 => h9) rfl dX7_lock_69 ?_
  refine lv_iload hx hb dX7_lock_72 (lv_at hl 4 rfl) ?_
  refine lv_iload hx hb dX7_lock_74 (lv_at hl 1 rfl) ?_
  refine gy_ist (i := ((k * 3) + r)) hx hb hK hP hD hS 1 rfl (by omega) (by omega) dX7_lock_76 (fun H locs hP hD hS => ?_)
  have hP : va_P D vwCl [(h0, .inr (7, [.ref a1])), (a1, .inl (cI, 34, .inl (upd f ((k * 3) + r) (f (9 + x))))), (b3, .inl (cI, 192, .inl pf))] H := hP
  have hD : va_D A [(h0, .inr (7, [.ref a1])), (a1, .inl (cI, 34, .inl (upd f ((k * 3) + r) (f (9 + x))))), (b3, .inl (cI, 192, .inl pf))] := hD
  refine lv_iload hx hb dX7_lock_77 (lv_at hl 6 rfl) ?_
  refine lv_iconst (v := 5) hx hb dX7_lock_79 (by decide) ?_
  refine lv_icmp_ne (tgt := 95) hx hb dX7_lock_80 (by decide) (fun c_1 => ?_) (fun c_1 => ?_)
  · refine lv_iload hx hb dX7_lock_95 (lv_at hl 6 rfl) ?_
    refine lv_bipush (v := 6) hx hb dX7_lock_97 (by decide) ?_
    refine lv_icmp_ne (tgt := 117) hx hb dX7_lock_99 (by decide) (fun c_2 => ?_) (fun c_2 => ?_)
    · refine lv_iload hx hb dX7_lock_117 (lv_at hl 1 rfl) ?_
      refine lv_iload hx hb dX7_lock_119 (lv_at hl 3 rfl) ?_
      refine lv_icmp_ne (tgt := 133) hx hb dX7_lock_121 (by decide) (fun c_3 => ?_) (fun c_3 => ?_)
      · exact gx_vret (w' := [(h0, .inr (7, [.ref a1])), (a1, .inl (cI, 34, .inl (upd f ((k * 3) + r) (f (9 + x))))), (b3, .inl (cI, 192, .inl pf))]) hx hb hr hlk hK hP hD hS (Nat.le_of_ble_eq_true rfl) (Nat.le_of_ble_eq_true rfl) dX7_lock_133 ⟨(upd f ((k * 3) + r) (f (9 + x))), (by unfold gLk; first | (rw [if_neg c_1, if_neg c_2, if_pos c_3]; done) | (rw [if_neg c_1, if_neg c_2, if_neg c_3]; done) | (rw [if_neg c_2, if_pos c_3]; done) | (rw [if_pos c_3]; done)), rfl⟩
      · refine lv_aload_n hx hb dX7_lock_124 rfl (lv_at hl 7 rfl) ?_
        refine va_get (D := D) (ci := 7) (v := .ref a1) (C := RX7) (T := TX7) (N := 1) hx hb hts (fun _ h => List.mem_cons_of_mem _ (List.mem_append_left _ (List.mem_append_right _ h))) hown hK hP 0 rfl rfl 0 (by decide) (hts (.fieldLink RX7 11 "LitmusHall$State" "words" "[I") (by decide +kernel)) (fun _ h9 => h9) rfl dX7_lock_125 ?_
        refine lv_iload hx hb dX7_lock_128 (lv_at hl 5 rfl) ?_
        refine lv_iload hx hb dX7_lock_130 (lv_at hl 2 rfl) ?_
        refine gy_ist (i := (9 + x)) hx hb hK hP hD hS 1 rfl (by omega) (by omega) dX7_lock_132 (fun H locs hP hD hS => ?_)
        have hP : va_P D vwCl [(h0, .inr (7, [.ref a1])), (a1, .inl (cI, 34, .inl (upd (upd f ((k * 3) + r) (f (9 + x))) (9 + x) (gVl pf f (n + 5) k)))), (b3, .inl (cI, 192, .inl pf))] H := hP
        have hD : va_D A [(h0, .inr (7, [.ref a1])), (a1, .inl (cI, 34, .inl (upd (upd f ((k * 3) + r) (f (9 + x))) (9 + x) (gVl pf f (n + 5) k)))), (b3, .inl (cI, 192, .inl pf))] := hD
        exact gx_vret (w' := [(h0, .inr (7, [.ref a1])), (a1, .inl (cI, 34, .inl (upd (upd f ((k * 3) + r) (f (9 + x))) (9 + x) (gVl pf f (n + 5) k)))), (b3, .inl (cI, 192, .inl pf))]) hx hb hr hlk hK hP hD hS (Nat.le_of_ble_eq_true rfl) (Nat.le_of_ble_eq_true rfl) dX7_lock_133 ⟨(upd (upd f ((k * 3) + r) (f (9 + x))) (9 + x) (gVl pf f (n + 5) k)), (by unfold gLk; first | (rw [if_neg c_1, if_neg c_2, if_pos c_3]; done) | (rw [if_neg c_1, if_neg c_2, if_neg c_3]; done) | (rw [if_neg c_2, if_pos c_3]; done) | (rw [if_pos c_3]; done)), rfl⟩
    · refine lv_aload_n hx hb dX7_lock_102 rfl (lv_at hl 7 rfl) ?_
      refine va_get (D := D) (ci := 7) (v := .ref a1) (C := RX7) (T := TX7) (N := 1) hx hb hts (fun _ h => List.mem_cons_of_mem _ (List.mem_append_left _ (List.mem_append_right _ h))) hown hK hP 0 rfl rfl 0 (by decide) (hts (.fieldLink RX7 11 "LitmusHall$State" "words" "[I") (by decide +kernel)) (fun _ h9 => h9) rfl dX7_lock_103 ?_
      refine lv_iload hx hb dX7_lock_106 (lv_at hl 5 rfl) ?_
      refine lv_iload hx hb dX7_lock_108 (lv_at hl 1 rfl) ?_
      refine lv_iload hx hb dX7_lock_110 (lv_at hl 3 rfl) ?_
      refine lv_iadd hx hb dX7_lock_112 ?_
      refine gy_ist (i := (9 + x)) hx hb hK hP hD hS 1 rfl (by omega) (by omega) dX7_lock_113 (fun H locs hP hD hS => ?_)
      have hP : va_P D vwCl [(h0, .inr (7, [.ref a1])), (a1, .inl (cI, 34, .inl (upd (upd f ((k * 3) + r) (f (9 + x))) (9 + x) ((f (9 + x)) + (gVl pf f (n + 3) k))))), (b3, .inl (cI, 192, .inl pf))] H := hP
      have hD : va_D A [(h0, .inr (7, [.ref a1])), (a1, .inl (cI, 34, .inl (upd (upd f ((k * 3) + r) (f (9 + x))) (9 + x) ((f (9 + x)) + (gVl pf f (n + 3) k))))), (b3, .inl (cI, 192, .inl pf))] := hD
      refine lv_goto (tgt := 133) hx hb dX7_lock_114 (by decide) ?_
      exact gx_vret (w' := [(h0, .inr (7, [.ref a1])), (a1, .inl (cI, 34, .inl (upd (upd f ((k * 3) + r) (f (9 + x))) (9 + x) ((f (9 + x)) + (gVl pf f (n + 3) k))))), (b3, .inl (cI, 192, .inl pf))]) hx hb hr hlk hK hP hD hS (Nat.le_of_ble_eq_true rfl) (Nat.le_of_ble_eq_true rfl) dX7_lock_133 ⟨(upd (upd f ((k * 3) + r) (f (9 + x))) (9 + x) ((f (9 + x)) + (gVl pf f (n + 3) k))), (by unfold gLk; first | (rw [if_neg c_1, if_neg c_1, if_pos c_2]; done) | (rw [if_neg c_1, if_neg c_1, if_neg c_2]; done) | (rw [if_neg c_1, if_pos c_2]; done) | (rw [if_pos c_2]; done)), rfl⟩
  · refine lv_aload_n hx hb dX7_lock_83 rfl (lv_at hl 7 rfl) ?_
    refine va_get (D := D) (ci := 7) (v := .ref a1) (C := RX7) (T := TX7) (N := 1) hx hb hts (fun _ h => List.mem_cons_of_mem _ (List.mem_append_left _ (List.mem_append_right _ h))) hown hK hP 0 rfl rfl 0 (by decide) (hts (.fieldLink RX7 11 "LitmusHall$State" "words" "[I") (by decide +kernel)) (fun _ h9 => h9) rfl dX7_lock_84 ?_
    refine lv_iload hx hb dX7_lock_87 (lv_at hl 5 rfl) ?_
    refine lv_iload hx hb dX7_lock_89 (lv_at hl 0 rfl) ?_
    refine gy_ist (i := (9 + x)) hx hb hK hP hD hS 1 rfl (by omega) (by omega) dX7_lock_91 (fun H locs hP hD hS => ?_)
    have hP : va_P D vwCl [(h0, .inr (7, [.ref a1])), (a1, .inl (cI, 34, .inl (upd (upd f ((k * 3) + r) (f (9 + x))) (9 + x) (f ((k * 3) + r))))), (b3, .inl (cI, 192, .inl pf))] H := hP
    have hD : va_D A [(h0, .inr (7, [.ref a1])), (a1, .inl (cI, 34, .inl (upd (upd f ((k * 3) + r) (f (9 + x))) (9 + x) (f ((k * 3) + r))))), (b3, .inl (cI, 192, .inl pf))] := hD
    refine lv_goto (tgt := 133) hx hb dX7_lock_92 (by decide) ?_
    exact gx_vret (w' := [(h0, .inr (7, [.ref a1])), (a1, .inl (cI, 34, .inl (upd (upd f ((k * 3) + r) (f (9 + x))) (9 + x) (f ((k * 3) + r))))), (b3, .inl (cI, 192, .inl pf))]) hx hb hr hlk hK hP hD hS (Nat.le_of_ble_eq_true rfl) (Nat.le_of_ble_eq_true rfl) dX7_lock_133 ⟨(upd (upd f ((k * 3) + r) (f (9 + x))) (9 + x) (f ((k * 3) + r))), (by unfold gLk; first | (rw [if_neg c_1, if_neg c_1, if_pos c_1]; done) | (rw [if_neg c_1, if_neg c_1, if_neg c_1]; done) | (rw [if_neg c_1, if_pos c_1]; done) | (rw [if_pos c_1]; done)), rfl⟩
