def wsP_c_fill_3 : List Cond := .code yJ7_fill_53178 cJ7_fill_53178 4 none :: ([])
set_option maxHeartbeats 4000000 in
set_option maxRecDepth 100000 in
theorem c_fill_3 (l : Launch) (D : va_G) (cI cB cZ : ClassId) (a : Nat)  : gMv l yJ7_fill_53178 wsP_c_fill_3 ({ frames := 0, cells := 0, slots := 0, locals := 0 }) D cI cB cZ [] [.ref a, .int 0] [(a, .inl (cI, 3, .inl (fun _ => 0)))] (fun w9 => w9 = [(a, .inl (cI, 3, .inl (upd (upd (upd (fun _ => 0) (Int32.toNatClampNeg 0) 0) (Int32.toNatClampNeg 1) 0) (Int32.toNatClampNeg 2) 0)))]) := by
  refine gMv.of (cc := cJ7_fill_53178) (maxL := 4) (ret := none) (by decide) rfl (Nat.le_of_ble_eq_true rfl) (fun p e s m below meth c A ls hx hb hr hlk hml hts hown hin hA hP hK hD hS hN hl => ?_)
  have hown : s.vm.findClass RJ7 = some m.cls := hown
  have hl : lv_has ls 4 [(0, .ref a), (1, .int 0)] := hl
  refine lv_iconst (v := 0) hx hb dJ7_fill_53178_0 (by decide) ?_
  refine lv_istore_n (lv' := [(2, .int 0), (0, .ref a), (1, .int 0)]) hx hb dJ7_fill_53178_1 rfl hl (by decide) rfl (fun ls hl => ?_)
  refine lv_aload_n hx hb dJ7_fill_53178_2 rfl (lv_at hl 1 rfl) ?_
  refine va_alen (v := 3) hx hb hK hP 0 0 rfl rfl (by decide +kernel) dJ7_fill_53178_3 ?_
  refine lv_istore_n (lv' := [(3, .int 3), (2, .int 0), (0, .ref a), (1, .int 0)]) hx hb dJ7_fill_53178_4 rfl hl (by decide) rfl (fun ls hl => ?_)
  refine lv_iload_n hx hb dJ7_fill_53178_5 rfl (lv_at hl 1 rfl) ?_
  refine lv_iload_n hx hb dJ7_fill_53178_6 rfl (lv_at hl 0 rfl) ?_
  refine lv_icmp_ge (tgt := 20) hx hb dJ7_fill_53178_7 (by decide) (fun c9 => absurd c9 (by decide)) (fun _ => ?_)
  refine lv_aload_n hx hb dJ7_fill_53178_10 rfl (lv_at hl 2 rfl) ?_
  refine lv_iload_n hx hb dJ7_fill_53178_11 rfl (lv_at hl 1 rfl) ?_
  refine lv_iload_n hx hb dJ7_fill_53178_12 rfl (lv_at hl 3 rfl) ?_
  refine va_iast hx hb hK hP hD hS 0 0 rfl rfl (by unfold vp_in; decide +kernel) dJ7_fill_53178_13 (fun H locs hP hD hS => ?_)
  have hP : va_P D vwCl [(a, .inl (cI, 3, .inl (upd (fun _ => 0) (Int32.toNatClampNeg 0) 0)))] H := hP
  have hD : va_D A [(a, .inl (cI, 3, .inl (upd (fun _ => 0) (Int32.toNatClampNeg 0) 0)))] := hD
  refine lv_iinc (v := 1) (lv' := [(2, .int 1), (3, .int 3), (0, .ref a), (1, .int 0)]) hx hb dJ7_fill_53178_14 hl (k := 1) rfl (by decide +kernel) (by decide) rfl (fun ls hl => ?_)
  refine lv_goto (tgt := 5) hx hb dJ7_fill_53178_17 (by decide) ?_
  refine lv_iload_n hx hb dJ7_fill_53178_5 rfl (lv_at hl 0 rfl) ?_
  refine lv_iload_n hx hb dJ7_fill_53178_6 rfl (lv_at hl 1 rfl) ?_
  refine lv_icmp_ge (tgt := 20) hx hb dJ7_fill_53178_7 (by decide) (fun c9 => absurd c9 (by decide)) (fun _ => ?_)
  refine lv_aload_n hx hb dJ7_fill_53178_10 rfl (lv_at hl 2 rfl) ?_
  refine lv_iload_n hx hb dJ7_fill_53178_11 rfl (lv_at hl 0 rfl) ?_
  refine lv_iload_n hx hb dJ7_fill_53178_12 rfl (lv_at hl 3 rfl) ?_
  refine va_iast hx hb hK hP hD hS 0 0 rfl rfl (by unfold vp_in; decide +kernel) dJ7_fill_53178_13 (fun H locs hP hD hS => ?_)
  have hP : va_P D vwCl [(a, .inl (cI, 3, .inl (upd (upd (fun _ => 0) (Int32.toNatClampNeg 0) 0) (Int32.toNatClampNeg 1) 0)))] H := hP
  have hD : va_D A [(a, .inl (cI, 3, .inl (upd (upd (fun _ => 0) (Int32.toNatClampNeg 0) 0) (Int32.toNatClampNeg 1) 0)))] := hD
  refine lv_iinc (v := 2) (lv' := [(2, .int 2), (3, .int 3), (0, .ref a), (1, .int 0)]) hx hb dJ7_fill_53178_14 hl (k := 0) rfl (by decide +kernel) (by decide) rfl (fun ls hl => ?_)
  refine lv_goto (tgt := 5) hx hb dJ7_fill_53178_17 (by decide) ?_
  refine lv_iload_n hx hb dJ7_fill_53178_5 rfl (lv_at hl 0 rfl) ?_
  refine lv_iload_n hx hb dJ7_fill_53178_6 rfl (lv_at hl 1 rfl) ?_
  refine lv_icmp_ge (tgt := 20) hx hb dJ7_fill_53178_7 (by decide) (fun c9 => absurd c9 (by decide)) (fun _ => ?_)
  refine lv_aload_n hx hb dJ7_fill_53178_10 rfl (lv_at hl 2 rfl) ?_
  refine lv_iload_n hx hb dJ7_fill_53178_11 rfl (lv_at hl 0 rfl) ?_
  refine lv_iload_n hx hb dJ7_fill_53178_12 rfl (lv_at hl 3 rfl) ?_
  refine va_iast hx hb hK hP hD hS 0 0 rfl rfl (by unfold vp_in; decide +kernel) dJ7_fill_53178_13 (fun H locs hP hD hS => ?_)
  have hP : va_P D vwCl [(a, .inl (cI, 3, .inl (upd (upd (upd (fun _ => 0) (Int32.toNatClampNeg 0) 0) (Int32.toNatClampNeg 1) 0) (Int32.toNatClampNeg 2) 0)))] H := hP
  have hD : va_D A [(a, .inl (cI, 3, .inl (upd (upd (upd (fun _ => 0) (Int32.toNatClampNeg 0) 0) (Int32.toNatClampNeg 1) 0) (Int32.toNatClampNeg 2) 0)))] := hD
  refine lv_iinc (v := 3) (lv' := [(2, .int 3), (3, .int 3), (0, .ref a), (1, .int 0)]) hx hb dJ7_fill_53178_14 hl (k := 0) rfl (by decide +kernel) (by decide) rfl (fun ls hl => ?_)
  refine lv_goto (tgt := 5) hx hb dJ7_fill_53178_17 (by decide) ?_
  refine lv_iload_n hx hb dJ7_fill_53178_5 rfl (lv_at hl 0 rfl) ?_
  refine lv_iload_n hx hb dJ7_fill_53178_6 rfl (lv_at hl 1 rfl) ?_
  refine lv_icmp_ge (tgt := 20) hx hb dJ7_fill_53178_7 (by decide) (fun _ => ?_) (fun c9 => absurd (by decide) c9)
  exact gx_vret hx hb hr hlk hK hP hD hS (Nat.le_of_ble_eq_true rfl) (Nat.le_of_ble_eq_true rfl) dJ7_fill_53178_20 rfl
def wsP_c_fill_4 : List Cond := .code yJ7_fill_53178 cJ7_fill_53178 4 none :: ([])
set_option maxHeartbeats 4000000 in
set_option maxRecDepth 100000 in
theorem c_fill_4 (l : Launch) (D : va_G) (cI cB cZ : ClassId) (a : Nat)  : gMv l yJ7_fill_53178 wsP_c_fill_4 ({ frames := 0, cells := 0, slots := 0, locals := 0 }) D cI cB cZ [] [.ref a, .int 0] [(a, .inl (cI, 4, .inl (fun _ => 0)))] (fun w9 => w9 = [(a, .inl (cI, 4, .inl (upd (upd (upd (upd (fun _ => 0) (Int32.toNatClampNeg 0) 0) (Int32.toNatClampNeg 1) 0) (Int32.toNatClampNeg 2) 0) (Int32.toNatClampNeg 3) 0)))]) := by
  refine gMv.of (cc := cJ7_fill_53178) (maxL := 4) (ret := none) (by decide) rfl (Nat.le_of_ble_eq_true rfl) (fun p e s m below meth c A ls hx hb hr hlk hml hts hown hin hA hP hK hD hS hN hl => ?_)
  have hown : s.vm.findClass RJ7 = some m.cls := hown
  have hl : lv_has ls 4 [(0, .ref a), (1, .int 0)] := hl
  refine lv_iconst (v := 0) hx hb dJ7_fill_53178_0 (by decide) ?_
  refine lv_istore_n (lv' := [(2, .int 0), (0, .ref a), (1, .int 0)]) hx hb dJ7_fill_53178_1 rfl hl (by decide) rfl (fun ls hl => ?_)
  refine lv_aload_n hx hb dJ7_fill_53178_2 rfl (lv_at hl 1 rfl) ?_
  refine va_alen (v := 4) hx hb hK hP 0 0 rfl rfl (by decide +kernel) dJ7_fill_53178_3 ?_
  refine lv_istore_n (lv' := [(3, .int 4), (2, .int 0), (0, .ref a), (1, .int 0)]) hx hb dJ7_fill_53178_4 rfl hl (by decide) rfl (fun ls hl => ?_)
  refine lv_iload_n hx hb dJ7_fill_53178_5 rfl (lv_at hl 1 rfl) ?_
  refine lv_iload_n hx hb dJ7_fill_53178_6 rfl (lv_at hl 0 rfl) ?_
  refine lv_icmp_ge (tgt := 20) hx hb dJ7_fill_53178_7 (by decide) (fun c9 => absurd c9 (by decide)) (fun _ => ?_)
  refine lv_aload_n hx hb dJ7_fill_53178_10 rfl (lv_at hl 2 rfl) ?_
  refine lv_iload_n hx hb dJ7_fill_53178_11 rfl (lv_at hl 1 rfl) ?_
  refine lv_iload_n hx hb dJ7_fill_53178_12 rfl (lv_at hl 3 rfl) ?_
  refine va_iast hx hb hK hP hD hS 0 0 rfl rfl (by unfold vp_in; decide +kernel) dJ7_fill_53178_13 (fun H locs hP hD hS => ?_)
  have hP : va_P D vwCl [(a, .inl (cI, 4, .inl (upd (fun _ => 0) (Int32.toNatClampNeg 0) 0)))] H := hP
  have hD : va_D A [(a, .inl (cI, 4, .inl (upd (fun _ => 0) (Int32.toNatClampNeg 0) 0)))] := hD
  refine lv_iinc (v := 1) (lv' := [(2, .int 1), (3, .int 4), (0, .ref a), (1, .int 0)]) hx hb dJ7_fill_53178_14 hl (k := 1) rfl (by decide +kernel) (by decide) rfl (fun ls hl => ?_)
  refine lv_goto (tgt := 5) hx hb dJ7_fill_53178_17 (by decide) ?_
  refine lv_iload_n hx hb dJ7_fill_53178_5 rfl (lv_at hl 0 rfl) ?_
  refine lv_iload_n hx hb dJ7_fill_53178_6 rfl (lv_at hl 1 rfl) ?_
  refine lv_icmp_ge (tgt := 20) hx hb dJ7_fill_53178_7 (by decide) (fun c9 => absurd c9 (by decide)) (fun _ => ?_)
  refine lv_aload_n hx hb dJ7_fill_53178_10 rfl (lv_at hl 2 rfl) ?_
  refine lv_iload_n hx hb dJ7_fill_53178_11 rfl (lv_at hl 0 rfl) ?_
  refine lv_iload_n hx hb dJ7_fill_53178_12 rfl (lv_at hl 3 rfl) ?_
  refine va_iast hx hb hK hP hD hS 0 0 rfl rfl (by unfold vp_in; decide +kernel) dJ7_fill_53178_13 (fun H locs hP hD hS => ?_)
  have hP : va_P D vwCl [(a, .inl (cI, 4, .inl (upd (upd (fun _ => 0) (Int32.toNatClampNeg 0) 0) (Int32.toNatClampNeg 1) 0)))] H := hP
  have hD : va_D A [(a, .inl (cI, 4, .inl (upd (upd (fun _ => 0) (Int32.toNatClampNeg 0) 0) (Int32.toNatClampNeg 1) 0)))] := hD
  refine lv_iinc (v := 2) (lv' := [(2, .int 2), (3, .int 4), (0, .ref a), (1, .int 0)]) hx hb dJ7_fill_53178_14 hl (k := 0) rfl (by decide +kernel) (by decide) rfl (fun ls hl => ?_)
  refine lv_goto (tgt := 5) hx hb dJ7_fill_53178_17 (by decide) ?_
  refine lv_iload_n hx hb dJ7_fill_53178_5 rfl (lv_at hl 0 rfl) ?_
  refine lv_iload_n hx hb dJ7_fill_53178_6 rfl (lv_at hl 1 rfl) ?_
  refine lv_icmp_ge (tgt := 20) hx hb dJ7_fill_53178_7 (by decide) (fun c9 => absurd c9 (by decide)) (fun _ => ?_)
  refine lv_aload_n hx hb dJ7_fill_53178_10 rfl (lv_at hl 2 rfl) ?_
  refine lv_iload_n hx hb dJ7_fill_53178_11 rfl (lv_at hl 0 rfl) ?_
  refine lv_iload_n hx hb dJ7_fill_53178_12 rfl (lv_at hl 3 rfl) ?_
  refine va_iast hx hb hK hP hD hS 0 0 rfl rfl (by unfold vp_in; decide +kernel) dJ7_fill_53178_13 (fun H locs hP hD hS => ?_)
  have hP : va_P D vwCl [(a, .inl (cI, 4, .inl (upd (upd (upd (fun _ => 0) (Int32.toNatClampNeg 0) 0) (Int32.toNatClampNeg 1) 0) (Int32.toNatClampNeg 2) 0)))] H := hP
  have hD : va_D A [(a, .inl (cI, 4, .inl (upd (upd (upd (fun _ => 0) (Int32.toNatClampNeg 0) 0) (Int32.toNatClampNeg 1) 0) (Int32.toNatClampNeg 2) 0)))] := hD
  refine lv_iinc (v := 3) (lv' := [(2, .int 3), (3, .int 4), (0, .ref a), (1, .int 0)]) hx hb dJ7_fill_53178_14 hl (k := 0) rfl (by decide +kernel) (by decide) rfl (fun ls hl => ?_)
  refine lv_goto (tgt := 5) hx hb dJ7_fill_53178_17 (by decide) ?_
  refine lv_iload_n hx hb dJ7_fill_53178_5 rfl (lv_at hl 0 rfl) ?_
  refine lv_iload_n hx hb dJ7_fill_53178_6 rfl (lv_at hl 1 rfl) ?_
  refine lv_icmp_ge (tgt := 20) hx hb dJ7_fill_53178_7 (by decide) (fun c9 => absurd c9 (by decide)) (fun _ => ?_)
  refine lv_aload_n hx hb dJ7_fill_53178_10 rfl (lv_at hl 2 rfl) ?_
  refine lv_iload_n hx hb dJ7_fill_53178_11 rfl (lv_at hl 0 rfl) ?_
  refine lv_iload_n hx hb dJ7_fill_53178_12 rfl (lv_at hl 3 rfl) ?_
  refine va_iast hx hb hK hP hD hS 0 0 rfl rfl (by unfold vp_in; decide +kernel) dJ7_fill_53178_13 (fun H locs hP hD hS => ?_)
  have hP : va_P D vwCl [(a, .inl (cI, 4, .inl (upd (upd (upd (upd (fun _ => 0) (Int32.toNatClampNeg 0) 0) (Int32.toNatClampNeg 1) 0) (Int32.toNatClampNeg 2) 0) (Int32.toNatClampNeg 3) 0)))] H := hP
  have hD : va_D A [(a, .inl (cI, 4, .inl (upd (upd (upd (upd (fun _ => 0) (Int32.toNatClampNeg 0) 0) (Int32.toNatClampNeg 1) 0) (Int32.toNatClampNeg 2) 0) (Int32.toNatClampNeg 3) 0)))] := hD
  refine lv_iinc (v := 4) (lv' := [(2, .int 4), (3, .int 4), (0, .ref a), (1, .int 0)]) hx hb dJ7_fill_53178_14 hl (k := 0) rfl (by decide +kernel) (by decide) rfl (fun ls hl => ?_)
  refine lv_goto (tgt := 5) hx hb dJ7_fill_53178_17 (by decide) ?_
  refine lv_iload_n hx hb dJ7_fill_53178_5 rfl (lv_at hl 0 rfl) ?_
  refine lv_iload_n hx hb dJ7_fill_53178_6 rfl (lv_at hl 1 rfl) ?_
  refine lv_icmp_ge (tgt := 20) hx hb dJ7_fill_53178_7 (by decide) (fun _ => ?_) (fun c9 => absurd (by decide) c9)
  exact gx_vret hx hb hr hlk hK hP hD hS (Nat.le_of_ble_eq_true rfl) (Nat.le_of_ble_eq_true rfl) dJ7_fill_53178_20 rfl
def wsP_c_X4_clear : List Cond := .code yX4_clear cX4_clear 1 none :: ([.fieldLink RX4 21 "LitmusHall$Program" "cores" "I", .fieldLink RX4 9 "LitmusHall$Program" "lengths" "[I", .methodLink RX4 25 yJ7_fill_53178, .static yJ7_fill_53178, .initialized RJ7, .code yJ7_fill_53178 cJ7_fill_53178 4 none, .fieldLink RX4 15 "LitmusHall$Program" "cells" "[I"] ++ wsX40)
set_option maxRecDepth 20000 in
theorem gP_c_X4_clear__c_fill_3 : GoodIn wsP_c_X4_clear (va_wsS RX4 25 yJ7_fill_53178 wsP_c_fill_3) := goodIn_r _ [3, 4, 5, 6] (by decide +kernel) (by decide +kernel)
set_option maxRecDepth 20000 in
theorem gP_c_X4_clear__c_fill_4 : GoodIn wsP_c_X4_clear (va_wsS RX4 25 yJ7_fill_53178 wsP_c_fill_4) := goodIn_r _ [3, 4, 5, 6] (by decide +kernel) (by decide +kernel)
set_option maxHeartbeats 4000000 in
set_option maxRecDepth 100000 in
theorem c_X4_clear (l : Launch) (D : va_G) (cI cB cZ : ClassId) (h0 : Nat) (a1 : Nat) (a2 : Nat) (v0 : Value) (v3 : Value)  : gMv l yX4_clear wsP_c_X4_clear ({ frames := 1, cells := 0, slots := 0, locals := 23 }) D cI cB cZ [] [.ref h0] [(h0, .inr (4, [v0, .ref a1, .ref a2, v3])), (a1, .inl (cI, 3, .inl (fun _ => 0))), (a2, .inl (cI, 4, .inl (fun _ => 0)))] (fun w9 => w9 = [(h0, .inr (4, [.int 0, .ref a1, .ref a2, v3])), (a1, .inl (cI, 3, .inl (upd (upd (upd (fun _ => 0) (Int32.toNatClampNeg 0) 0) (Int32.toNatClampNeg 1) 0) (Int32.toNatClampNeg 2) 0))), (a2, .inl (cI, 4, .inl (upd (upd (upd (upd (fun _ => 0) (Int32.toNatClampNeg 0) 0) (Int32.toNatClampNeg 1) 0) (Int32.toNatClampNeg 2) 0) (Int32.toNatClampNeg 3) 0)))]) := by
  refine gMv.of (cc := cX4_clear) (maxL := 1) (ret := none) (by decide) rfl (Nat.le_of_ble_eq_true rfl) (fun p e s m below meth c A ls hx hb hr hlk hml hts hown hin hA hP hK hD hS hN hl => ?_)
  have hown : s.vm.findClass RX4 = some m.cls := hown
  have hl : lv_has ls 1 [(0, .ref h0)] := hl
  refine lv_aload_n hx hb dX4_clear_0 rfl (lv_at hl 0 rfl) ?_
  refine lv_iconst (v := 0) hx hb dX4_clear_1 (by decide) ?_
  refine va_put (D := D) (ci := 4) (v := .int 0) (ty := .int) (C := RX4) (T := TX4) (N := 4) hx hb hts (fun _ h => List.mem_cons_of_mem _ (List.mem_append_right _ h)) tyX4 tyX4_ok nmX4 hown hK hP hD hS 0 rfl rfl 0 (by decide) (hts (.fieldLink RX4 21 "LitmusHall$Program" "cores" "I") (by decide +kernel)) (fun _ h9 => h9) rfl (by decide +kernel) rfl rfl (Nat.le_of_ble_eq_true rfl) dX4_clear_2 (fun H locs hP hD hS => ?_)
  have hP : va_P D vwCl [(h0, .inr (4, [.int 0, .ref a1, .ref a2, v3])), (a1, .inl (cI, 3, .inl (fun _ => 0))), (a2, .inl (cI, 4, .inl (fun _ => 0)))] H := hP
  have hD : va_D A [(h0, .inr (4, [.int 0, .ref a1, .ref a2, v3])), (a1, .inl (cI, 3, .inl (fun _ => 0))), (a2, .inl (cI, 4, .inl (fun _ => 0)))] := hD
  refine lv_aload_n hx hb dX4_clear_5 rfl (lv_at hl 0 rfl) ?_
  refine va_get (D := D) (ci := 4) (v := .ref a1) (C := RX4) (T := TX4) (N := 4) hx hb hts (fun _ h => List.mem_cons_of_mem _ (List.mem_append_right _ h)) hown hK hP 0 rfl rfl 1 (by decide) (hts (.fieldLink RX4 9 "LitmusHall$Program" "lengths" "[I") (by decide +kernel)) (fun _ h9 => h9) rfl dX4_clear_6 ?_
  refine lv_iconst (v := 0) hx hb dX4_clear_9 (by decide) ?_
  refine gx_gov (wc := [(a1, .inl (cI, 3, .inl (fun _ => 0)))]) (wr := [(h0, .inr (4, [.int 0, .ref a1, .ref a2, v3])), (a2, .inl (cI, 4, .inl (fun _ => 0)))]) (va_runS (As := [.ref a1, .int 0]) (rest := []) ⟨hx, hb, hml, hown, hts⟩ (c_fill_3 l D cI cB cZ a1 _) (va_cwS 2 hts gP_c_X4_clear__c_fill_3 rfl rfl rfl (by decide +kernel) ⟨Nat.le_of_ble_eq_true rfl, Nat.le_of_ble_eq_true rfl⟩) (gx_preS hK gN.nil hP hD [1] rfl rfl) rfl rfl hl.1 rfl (lv_room (Nat.le_of_ble_eq_true rfl)) dX4_clear_10 ⟨Nat.le_of_ble_eq_true rfl, Nat.le_of_ble_eq_true rfl⟩) hP hD hS hA [1] [0, 2] rfl rfl rfl (by decide) (fun w1 H locs hp hP hD hS => ?_)
  obtain ⟨rfl⟩ := hp
  have hP : va_P D vwCl [(h0, .inr (4, [.int 0, .ref a1, .ref a2, v3])), (a2, .inl (cI, 4, .inl (fun _ => 0))), (a1, .inl (cI, 3, .inl (upd (upd (upd (fun _ => 0) (Int32.toNatClampNeg 0) 0) (Int32.toNatClampNeg 1) 0) (Int32.toNatClampNeg 2) 0)))] H := hP
  have hD : va_D A [(h0, .inr (4, [.int 0, .ref a1, .ref a2, v3])), (a2, .inl (cI, 4, .inl (fun _ => 0))), (a1, .inl (cI, 3, .inl (upd (upd (upd (fun _ => 0) (Int32.toNatClampNeg 0) 0) (Int32.toNatClampNeg 1) 0) (Int32.toNatClampNeg 2) 0)))] := hD
  refine W.widen (k := 0) (n := 0) (Nat.le_of_ble_eq_true rfl) (Nat.le_of_ble_eq_true rfl) ?_
  refine lv_aload_n hx hb dX4_clear_13 rfl (lv_at hl 0 rfl) ?_
  refine va_get (D := D) (ci := 4) (v := .ref a2) (C := RX4) (T := TX4) (N := 4) hx hb hts (fun _ h => List.mem_cons_of_mem _ (List.mem_append_right _ h)) hown hK hP 0 rfl rfl 2 (by decide) (hts (.fieldLink RX4 15 "LitmusHall$Program" "cells" "[I") (by decide +kernel)) (fun _ h9 => h9) rfl dX4_clear_14 ?_
  refine lv_iconst (v := 0) hx hb dX4_clear_17 (by decide) ?_
  refine gx_gov (wc := [(a2, .inl (cI, 4, .inl (fun _ => 0)))]) (wr := [(h0, .inr (4, [.int 0, .ref a1, .ref a2, v3])), (a1, .inl (cI, 3, .inl (upd (upd (upd (fun _ => 0) (Int32.toNatClampNeg 0) 0) (Int32.toNatClampNeg 1) 0) (Int32.toNatClampNeg 2) 0)))]) (va_runS (As := [.ref a2, .int 0]) (rest := []) ⟨hx, hb, hml, hown, hts⟩ (c_fill_4 l D cI cB cZ a2 _) (va_cwS 2 hts gP_c_X4_clear__c_fill_4 rfl rfl rfl (by decide +kernel) ⟨Nat.le_of_ble_eq_true rfl, Nat.le_of_ble_eq_true rfl⟩) (gx_preS hK gN.nil hP hD [1] rfl rfl) rfl rfl hl.1 rfl (lv_room (Nat.le_of_ble_eq_true rfl)) dX4_clear_18 ⟨Nat.le_of_ble_eq_true rfl, Nat.le_of_ble_eq_true rfl⟩) hP hD hS hA [1] [0, 2] rfl rfl rfl (by decide) (fun w1 H locs hp hP hD hS => ?_)
  obtain ⟨rfl⟩ := hp
  have hP : va_P D vwCl [(h0, .inr (4, [.int 0, .ref a1, .ref a2, v3])), (a1, .inl (cI, 3, .inl (upd (upd (upd (fun _ => 0) (Int32.toNatClampNeg 0) 0) (Int32.toNatClampNeg 1) 0) (Int32.toNatClampNeg 2) 0))), (a2, .inl (cI, 4, .inl (upd (upd (upd (upd (fun _ => 0) (Int32.toNatClampNeg 0) 0) (Int32.toNatClampNeg 1) 0) (Int32.toNatClampNeg 2) 0) (Int32.toNatClampNeg 3) 0)))] H := hP
  have hD : va_D A [(h0, .inr (4, [.int 0, .ref a1, .ref a2, v3])), (a1, .inl (cI, 3, .inl (upd (upd (upd (fun _ => 0) (Int32.toNatClampNeg 0) 0) (Int32.toNatClampNeg 1) 0) (Int32.toNatClampNeg 2) 0))), (a2, .inl (cI, 4, .inl (upd (upd (upd (upd (fun _ => 0) (Int32.toNatClampNeg 0) 0) (Int32.toNatClampNeg 1) 0) (Int32.toNatClampNeg 2) 0) (Int32.toNatClampNeg 3) 0)))] := hD
  refine W.widen (k := 0) (n := 0) (Nat.le_of_ble_eq_true rfl) (Nat.le_of_ble_eq_true rfl) ?_
  exact gx_vret hx hb hr hlk hK hP hD hS (Nat.le_of_ble_eq_true rfl) (Nat.le_of_ble_eq_true rfl) dX4_clear_21 rfl
def wsP_c_X6_behindBlanks : List Cond := .code yX6_behindBlanks cX6_behindBlanks 5 (some .int) :: ([])
set_option maxHeartbeats 4000000 in
set_option maxRecDepth 100000 in
theorem c_X6_behindBlanks (l : Launch) (D : va_G) (cI cB cZ : ClassId) (a : Nat) (f : Nat → Int32)  : gMi l yX6_behindBlanks wsP_c_X6_behindBlanks ({ frames := 0, cells := 0, slots := 0, locals := 0 }) D cI cB cZ [] [.ref a, .int 0, .int 0] [(a, .inl (cB, 4000, .inl f))] (fun r9 w9 => r9 = 0 ∧ w9 = [(a, .inl (cB, 4000, .inl f))]) := by
  refine gMi.of (cc := cX6_behindBlanks) (maxL := 5) (ret := (some .int)) (by decide) rfl (Nat.le_of_ble_eq_true rfl) (fun p e s m below meth c A ls hx hb hr hlk hml hts hown hin hA hP hK hD hS hN hl => ?_)
  have hown : s.vm.findClass RX6 = some m.cls := hown
  have hl : lv_has ls 5 [(0, .ref a), (1, .int 0), (2, .int 0)] := hl
  refine lv_iload_n hx hb dX6_behindBlanks_0 rfl (lv_at hl 2 rfl) ?_
  refine lv_istore_n (lv' := [(3, .int 0), (0, .ref a), (1, .int 0), (2, .int 0)]) hx hb dX6_behindBlanks_1 rfl hl (by decide) rfl (fun ls hl => ?_)
  refine lv_iload_n hx hb dX6_behindBlanks_2 rfl (lv_at hl 0 rfl) ?_
  refine lv_iload_n hx hb dX6_behindBlanks_3 rfl (lv_at hl 2 rfl) ?_
  refine lv_icmp_ge (tgt := 48) hx hb dX6_behindBlanks_4 (by decide) (fun _ => ?_) (fun c9 => absurd (by decide) c9)
  refine lv_iload_n hx hb dX6_behindBlanks_48 rfl (lv_at hl 2 rfl) ?_
  exact gx_iret hx hb hr hlk hK hP hD hS (Nat.le_of_ble_eq_true rfl) (Nat.le_of_ble_eq_true rfl) dX6_behindBlanks_49 ⟨rfl, rfl⟩
def wsP_c_X6_scan : List Cond := .code yX6_scan cX6_scan 6 none :: ([.methodLink RX6 61 yX6_behindBlanks, .static yX6_behindBlanks, .initialized RX6, .code yX6_behindBlanks cX6_behindBlanks 5 (some .int), .fieldLink RX6 26 "LitmusHall$Reader" "starts" "[I", .fieldLink RX6 22 "LitmusHall$Reader" "kinds" "[I"] ++ wsX60)
set_option maxRecDepth 20000 in
theorem gP_c_X6_scan__c_X6_behindBlanks : GoodIn wsP_c_X6_scan (va_wsS RX6 61 yX6_behindBlanks wsP_c_X6_behindBlanks) := goodIn_r _ [1, 2, 3, 4] (by decide +kernel) (by decide +kernel)
set_option maxHeartbeats 4000000 in
set_option maxRecDepth 100000 in
theorem c_X6_scan (l : Launch) (D : va_G) (cI cB cZ : ClassId) (h0 : Nat) (a4 : Nat) (a5 : Nat) (a : Nat) (f : Nat → Int32) (v0 : Value) (v1 : Value) (v2 : Value) (v3 : Value) (v6 : Value) (v7 : Value) (v8 : Value) (v9 : Value) (v10 : Value) (v11 : Value)  : gMv l yX6_scan wsP_c_X6_scan ({ frames := 1, cells := 0, slots := 0, locals := 24 }) D cI cB cZ [] [.ref h0, .ref a, .int 0] [(h0, .inr (6, [v0, v1, v2, v3, .ref a4, .ref a5, v6, v7, v8, v9, v10, v11])), (a4, .inl (cI, 501, .inl (fun _ => 0))), (a5, .inl (cI, 501, .inl (fun _ => 0))), (a, .inl (cB, 4000, .inl f))] (fun w9 => w9 = [(h0, .inr (6, [v0, v1, v2, v3, .ref a4, .ref a5, v6, v7, v8, v9, v10, v11])), (a4, .inl (cI, 501, .inl (upd (fun _ => 0) (Int32.toNatClampNeg 0) 21))), (a5, .inl (cI, 501, .inl (upd (fun _ => 0) (Int32.toNatClampNeg 0) 0))), (a, .inl (cB, 4000, .inl f))]) := by
  refine gMv.of (cc := cX6_scan) (maxL := 6) (ret := none) (by decide) rfl (Nat.le_of_ble_eq_true rfl) (fun p e s m below meth c A ls hx hb hr hlk hml hts hown hin hA hP hK hD hS hN hl => ?_)
  have hown : s.vm.findClass RX6 = some m.cls := hown
  have hl : lv_has ls 6 [(0, .ref h0), (1, .ref a), (2, .int 0)] := hl
  refine lv_iconst (v := 0) hx hb dX6_scan_0 (by decide) ?_
  refine lv_istore_n (lv' := [(3, .int 0), (0, .ref h0), (1, .ref a), (2, .int 0)]) hx hb dX6_scan_1 rfl hl (by decide) rfl (fun ls hl => ?_)
  refine lv_iconst (v := 0) hx hb dX6_scan_2 (by decide) ?_
  refine lv_istore (lv' := [(4, .int 0), (3, .int 0), (0, .ref h0), (1, .ref a), (2, .int 0)]) hx hb dX6_scan_3 hl (by decide) rfl (fun ls hl => ?_)
  refine lv_iload hx hb dX6_scan_5 (lv_at hl 0 rfl) ?_
  refine lv_sipush (v := 500) hx hb dX6_scan_7 (by decide) ?_
  refine lv_icmp_gt (tgt := 117) hx hb dX6_scan_10 (by decide) (fun c9 => absurd c9 (by decide)) (fun _ => ?_)
  refine lv_aload_n hx hb dX6_scan_13 rfl (lv_at hl 3 rfl) ?_
  refine lv_iload_n hx hb dX6_scan_14 rfl (lv_at hl 4 rfl) ?_
  refine lv_iload_n hx hb dX6_scan_15 rfl (lv_at hl 1 rfl) ?_
  refine gx_goi (wc := [(a, .inl (cB, 4000, .inl f))]) (wr := [(h0, .inr (6, [v0, v1, v2, v3, .ref a4, .ref a5, v6, v7, v8, v9, v10, v11])), (a4, .inl (cI, 501, .inl (fun _ => 0))), (a5, .inl (cI, 501, .inl (fun _ => 0)))]) (va_runS (As := [.ref a, .int 0, .int 0]) (rest := []) ⟨hx, hb, hml, hown, hts⟩ (c_X6_behindBlanks l D cI cB cZ a f _) (va_cwS 3 hts gP_c_X6_scan__c_X6_behindBlanks rfl rfl rfl (by decide +kernel) ⟨Nat.le_of_ble_eq_true rfl, Nat.le_of_ble_eq_true rfl⟩) (gx_preS hK gN.nil hP hD [3] rfl rfl) rfl rfl hl.1 rfl (lv_room (Nat.le_of_ble_eq_true rfl)) dX6_scan_16 ⟨Nat.le_of_ble_eq_true rfl, Nat.le_of_ble_eq_true rfl⟩) hP hD hS hA [3] [0, 1, 2] rfl rfl rfl (by decide) (fun r1 w1 H locs hp hP hD hS => ?_)
  obtain ⟨rfl, rfl⟩ := hp
  have hP : va_P D vwCl [(h0, .inr (6, [v0, v1, v2, v3, .ref a4, .ref a5, v6, v7, v8, v9, v10, v11])), (a4, .inl (cI, 501, .inl (fun _ => 0))), (a5, .inl (cI, 501, .inl (fun _ => 0))), (a, .inl (cB, 4000, .inl f))] H := hP
  have hD : va_D A [(h0, .inr (6, [v0, v1, v2, v3, .ref a4, .ref a5, v6, v7, v8, v9, v10, v11])), (a4, .inl (cI, 501, .inl (fun _ => 0))), (a5, .inl (cI, 501, .inl (fun _ => 0))), (a, .inl (cB, 4000, .inl f))] := hD
  refine W.widen (k := 0) (n := 0) (Nat.le_of_ble_eq_true rfl) (Nat.le_of_ble_eq_true rfl) ?_
  refine lv_istore_n (lv' := [(3, .int 0), (4, .int 0), (0, .ref h0), (1, .ref a), (2, .int 0)]) hx hb dX6_scan_19 rfl hl (by decide) rfl (fun ls hl => ?_)
  refine lv_aload_n hx hb dX6_scan_20 rfl (lv_at hl 2 rfl) ?_
  refine va_get (D := D) (ci := 6) (v := .ref a5) (C := RX6) (T := TX6) (N := 12) hx hb hts (fun _ h => List.mem_cons_of_mem _ (List.mem_append_right _ h)) hown hK hP 0 rfl rfl 5 (by decide) (hts (.fieldLink RX6 26 "LitmusHall$Reader" "starts" "[I") (by decide +kernel)) (fun _ h9 => h9) rfl dX6_scan_21 ?_
  refine lv_iload hx hb dX6_scan_24 (lv_at hl 1 rfl) ?_
  refine lv_iload_n hx hb dX6_scan_26 rfl (lv_at hl 0 rfl) ?_
  refine va_iast hx hb hK hP hD hS 2 0 rfl rfl (by unfold vp_in; decide +kernel) dX6_scan_27 (fun H locs hP hD hS => ?_)
  have hP : va_P D vwCl [(h0, .inr (6, [v0, v1, v2, v3, .ref a4, .ref a5, v6, v7, v8, v9, v10, v11])), (a4, .inl (cI, 501, .inl (fun _ => 0))), (a5, .inl (cI, 501, .inl (upd (fun _ => 0) (Int32.toNatClampNeg 0) 0))), (a, .inl (cB, 4000, .inl f))] H := hP
  have hD : va_D A [(h0, .inr (6, [v0, v1, v2, v3, .ref a4, .ref a5, v6, v7, v8, v9, v10, v11])), (a4, .inl (cI, 501, .inl (fun _ => 0))), (a5, .inl (cI, 501, .inl (upd (fun _ => 0) (Int32.toNatClampNeg 0) 0))), (a, .inl (cB, 4000, .inl f))] := hD
  refine lv_iload_n hx hb dX6_scan_28 rfl (lv_at hl 0 rfl) ?_
  refine lv_iload_n hx hb dX6_scan_29 rfl (lv_at hl 4 rfl) ?_
  refine lv_icmp_lt (tgt := 43) hx hb dX6_scan_30 (by decide) (fun c9 => absurd c9 (by decide)) (fun _ => ?_)
  refine lv_aload_n hx hb dX6_scan_33 rfl (lv_at hl 2 rfl) ?_
  refine va_get (D := D) (ci := 6) (v := .ref a4) (C := RX6) (T := TX6) (N := 12) hx hb hts (fun _ h => List.mem_cons_of_mem _ (List.mem_append_right _ h)) hown hK hP 0 rfl rfl 4 (by decide) (hts (.fieldLink RX6 22 "LitmusHall$Reader" "kinds" "[I") (by decide +kernel)) (fun _ h9 => h9) rfl dX6_scan_34 ?_
  refine lv_iload hx hb dX6_scan_37 (lv_at hl 1 rfl) ?_
  refine lv_bipush (v := 21) hx hb dX6_scan_39 (by decide) ?_
  refine va_iast hx hb hK hP hD hS 1 0 rfl rfl (by unfold vp_in; decide +kernel) dX6_scan_41 (fun H locs hP hD hS => ?_)
  have hP : va_P D vwCl [(h0, .inr (6, [v0, v1, v2, v3, .ref a4, .ref a5, v6, v7, v8, v9, v10, v11])), (a4, .inl (cI, 501, .inl (upd (fun _ => 0) (Int32.toNatClampNeg 0) 21))), (a5, .inl (cI, 501, .inl (upd (fun _ => 0) (Int32.toNatClampNeg 0) 0))), (a, .inl (cB, 4000, .inl f))] H := hP
  have hD : va_D A [(h0, .inr (6, [v0, v1, v2, v3, .ref a4, .ref a5, v6, v7, v8, v9, v10, v11])), (a4, .inl (cI, 501, .inl (upd (fun _ => 0) (Int32.toNatClampNeg 0) 21))), (a5, .inl (cI, 501, .inl (upd (fun _ => 0) (Int32.toNatClampNeg 0) 0))), (a, .inl (cB, 4000, .inl f))] := hD
  exact gx_vret hx hb hr hlk hK hP hD hS (Nat.le_of_ble_eq_true rfl) (Nat.le_of_ble_eq_true rfl) dX6_scan_42 rfl
def wsP_c_X6_fail : List Cond := .code yX6_fail cX6_fail 2 (some .boolean) :: ([.fieldLink RX6 39 "LitmusHall$Reader" "fault" "I", .fieldLink RX6 26 "LitmusHall$Reader" "starts" "[I", .fieldLink RX6 45 "LitmusHall$Reader" "at" "I", .fieldLink RX6 18 "LitmusHall$Reader" "place" "I"] ++ wsX60)
set_option maxHeartbeats 4000000 in
set_option maxRecDepth 100000 in
theorem c_X6_fail (l : Launch) (D : va_G) (cI cB cZ : ClassId) (h0 : Nat) (a5 : Nat) (v1 : Value) (v2 : Value) (v0 : Value) (v3 : Value) (v4 : Value) (v6 : Value) (v7 : Value) (v9 : Value) (v10 : Value) (v11 : Value) (x : Int32)  : gMi l yX6_fail wsP_c_X6_fail ({ frames := 0, cells := 0, slots := 0, locals := 0 }) D cI cB cZ [] [.ref h0, .int x] [(h0, .inr (6, [v0, v1, v2, v3, v4, .ref a5, v6, v7, .int 0, v9, v10, v11])), (a5, .inl (cI, 501, .inl (upd (fun _ => 0) (Int32.toNatClampNeg 0) 0)))] (fun r9 w9 => r9 = 0 ∧ w9 = [(h0, .inr (6, [v0, .int 0, .int x, v3, v4, .ref a5, v6, v7, .int 0, v9, v10, v11])), (a5, .inl (cI, 501, .inl (upd (fun _ => 0) (Int32.toNatClampNeg 0) 0)))]) := by
  refine gMi.of (cc := cX6_fail) (maxL := 2) (ret := (some .boolean)) (by decide) rfl (Nat.le_of_ble_eq_true rfl) (fun p e s m below meth c A ls hx hb hr hlk hml hts hown hin hA hP hK hD hS hN hl => ?_)
  have hown : s.vm.findClass RX6 = some m.cls := hown
  have hl : lv_has ls 2 [(0, .ref h0), (1, .int x)] := hl
  refine lv_aload_n hx hb dX6_fail_0 rfl (lv_at hl 0 rfl) ?_
  refine lv_iload_n hx hb dX6_fail_1 rfl (lv_at hl 1 rfl) ?_
  refine va_put (D := D) (ci := 6) (v := .int x) (ty := .int) (C := RX6) (T := TX6) (N := 12) hx hb hts (fun _ h => List.mem_cons_of_mem _ (List.mem_append_right _ h)) tyX6 tyX6_ok nmX6 hown hK hP hD hS 0 rfl rfl 2 (by decide) (hts (.fieldLink RX6 39 "LitmusHall$Reader" "fault" "I") (by decide +kernel)) (fun _ h9 => h9) rfl (by decide +kernel) rfl rfl (Nat.le_of_ble_eq_true rfl) dX6_fail_2 (fun H locs hP hD hS => ?_)
  have hP : va_P D vwCl [(h0, .inr (6, [v0, v1, .int x, v3, v4, .ref a5, v6, v7, .int 0, v9, v10, v11])), (a5, .inl (cI, 501, .inl (upd (fun _ => 0) (Int32.toNatClampNeg 0) 0)))] H := hP
  have hD : va_D A [(h0, .inr (6, [v0, v1, .int x, v3, v4, .ref a5, v6, v7, .int 0, v9, v10, v11])), (a5, .inl (cI, 501, .inl (upd (fun _ => 0) (Int32.toNatClampNeg 0) 0)))] := hD
  refine lv_aload_n hx hb dX6_fail_5 rfl (lv_at hl 0 rfl) ?_
  refine lv_aload_n hx hb dX6_fail_6 rfl (lv_at hl 0 rfl) ?_
  refine va_get (D := D) (ci := 6) (v := .ref a5) (C := RX6) (T := TX6) (N := 12) hx hb hts (fun _ h => List.mem_cons_of_mem _ (List.mem_append_right _ h)) hown hK hP 0 rfl rfl 5 (by decide) (hts (.fieldLink RX6 26 "LitmusHall$Reader" "starts" "[I") (by decide +kernel)) (fun _ h9 => h9) rfl dX6_fail_7 ?_
  refine lv_aload_n hx hb dX6_fail_10 rfl (lv_at hl 0 rfl) ?_
  refine va_get (D := D) (ci := 6) (v := .int 0) (C := RX6) (T := TX6) (N := 12) hx hb hts (fun _ h => List.mem_cons_of_mem _ (List.mem_append_right _ h)) hown hK hP 0 rfl rfl 8 (by decide) (hts (.fieldLink RX6 45 "LitmusHall$Reader" "at" "I") (by decide +kernel)) (fun _ h9 => h9) rfl dX6_fail_11 ?_
  refine va_iald hx hb hK hP 1 0 rfl rfl (by unfold vp_in; decide +kernel) dX6_fail_14 ?_
  refine gx_top (y := 0) (by decide +kernel) ?_
  refine va_put (D := D) (ci := 6) (v := .int 0) (ty := .int) (C := RX6) (T := TX6) (N := 12) hx hb hts (fun _ h => List.mem_cons_of_mem _ (List.mem_append_right _ h)) tyX6 tyX6_ok nmX6 hown hK hP hD hS 0 rfl rfl 1 (by decide) (hts (.fieldLink RX6 18 "LitmusHall$Reader" "place" "I") (by decide +kernel)) (fun _ h9 => h9) rfl (by decide +kernel) rfl rfl (Nat.le_of_ble_eq_true rfl) dX6_fail_15 (fun H locs hP hD hS => ?_)
  have hP : va_P D vwCl [(h0, .inr (6, [v0, .int 0, .int x, v3, v4, .ref a5, v6, v7, .int 0, v9, v10, v11])), (a5, .inl (cI, 501, .inl (upd (fun _ => 0) (Int32.toNatClampNeg 0) 0)))] H := hP
  have hD : va_D A [(h0, .inr (6, [v0, .int 0, .int x, v3, v4, .ref a5, v6, v7, .int 0, v9, v10, v11])), (a5, .inl (cI, 501, .inl (upd (fun _ => 0) (Int32.toNatClampNeg 0) 0)))] := hD
  refine lv_iconst (v := 0) hx hb dX6_fail_18 (by decide) ?_
  exact gx_zret hx hb hr hlk hK hP hD hS (Nat.le_of_ble_eq_true rfl) (Nat.le_of_ble_eq_true rfl) dX6_fail_19 rfl ⟨rfl, rfl⟩
def wsP_c_X6_take : List Cond := .code yX6_take cX6_take 2 (some .boolean) :: ([.fieldLink RX6 22 "LitmusHall$Reader" "kinds" "[I", .fieldLink RX6 45 "LitmusHall$Reader" "at" "I", .methodLink RX6 96 yX6_fail, .instanceMethod yX6_fail, .selects RX6 yX6_fail yX6_fail, .initialized RX6, .fieldLink RX6 39 "LitmusHall$Reader" "fault" "I", .fieldLink RX6 26 "LitmusHall$Reader" "starts" "[I", .fieldLink RX6 18 "LitmusHall$Reader" "place" "I", .code yX6_fail cX6_fail 2 (some .boolean)] ++ wsX60)
set_option maxRecDepth 20000 in
theorem gP_c_X6_take__c_X6_fail : GoodIn wsP_c_X6_take (wsV RX6 96 RX6 yX6_fail wsP_c_X6_fail) := goodIn_r _ [3, 4, 5, 6, 10, 7, 8, 2, 9, 11, 12, 13, 14, 15, 16, 17, 18, 19, 20, 21, 22] (by decide +kernel) (by decide +kernel)
set_option maxHeartbeats 4000000 in
set_option maxRecDepth 100000 in
theorem c_X6_take (l : Launch) (D : va_G) (cI cB cZ : ClassId) (h0 : Nat) (a4 : Nat) (a5 : Nat) (v0 : Value) (v1 : Value) (v2 : Value) (v3 : Value) (v6 : Value) (v7 : Value) (v9 : Value) (v10 : Value) (v11 : Value)  : gMi l yX6_take wsP_c_X6_take ({ frames := 1, cells := 0, slots := 0, locals := 21 }) D cI cB cZ [] [.ref h0, .int 10] [(h0, .inr (6, [v0, v1, v2, v3, .ref a4, .ref a5, v6, v7, .int 0, v9, v10, v11])), (a4, .inl (cI, 501, .inl (upd (fun _ => 0) (Int32.toNatClampNeg 0) 21))), (a5, .inl (cI, 501, .inl (upd (fun _ => 0) (Int32.toNatClampNeg 0) 0)))] (fun r9 w9 => r9 = 0 ∧ w9 = [(a4, .inl (cI, 501, .inl (upd (fun _ => 0) (Int32.toNatClampNeg 0) 21))), (h0, .inr (6, [v0, .int 0, .int 1, v3, .ref a4, .ref a5, v6, v7, .int 0, v9, v10, v11])), (a5, .inl (cI, 501, .inl (upd (fun _ => 0) (Int32.toNatClampNeg 0) 0)))]) := by
  refine gMi.of (cc := cX6_take) (maxL := 2) (ret := (some .boolean)) (by decide) rfl (Nat.le_of_ble_eq_true rfl) (fun p e s m below meth c A ls hx hb hr hlk hml hts hown hin hA hP hK hD hS hN hl => ?_)
  have hown : s.vm.findClass RX6 = some m.cls := hown
  have hl : lv_has ls 2 [(0, .ref h0), (1, .int 10)] := hl
  refine lv_aload_n hx hb dX6_take_0 rfl (lv_at hl 0 rfl) ?_
  refine va_get (D := D) (ci := 6) (v := .ref a4) (C := RX6) (T := TX6) (N := 12) hx hb hts (fun _ h => List.mem_cons_of_mem _ (List.mem_append_right _ h)) hown hK hP 0 rfl rfl 4 (by decide) (hts (.fieldLink RX6 22 "LitmusHall$Reader" "kinds" "[I") (by decide +kernel)) (fun _ h9 => h9) rfl dX6_take_1 ?_
  refine lv_aload_n hx hb dX6_take_4 rfl (lv_at hl 0 rfl) ?_
  refine va_get (D := D) (ci := 6) (v := .int 0) (C := RX6) (T := TX6) (N := 12) hx hb hts (fun _ h => List.mem_cons_of_mem _ (List.mem_append_right _ h)) hown hK hP 0 rfl rfl 8 (by decide) (hts (.fieldLink RX6 45 "LitmusHall$Reader" "at" "I") (by decide +kernel)) (fun _ h9 => h9) rfl dX6_take_5 ?_
  refine va_iald hx hb hK hP 1 0 rfl rfl (by unfold vp_in; decide +kernel) dX6_take_8 ?_
  refine gx_top (y := 21) (by decide +kernel) ?_
  refine lv_iload_n hx hb dX6_take_9 rfl (lv_at hl 1 rfl) ?_
  refine lv_icmp_eq (tgt := 19) hx hb dX6_take_10 (by decide) (fun c9 => absurd c9 (by decide)) (fun _ => ?_)
  refine lv_aload_n hx hb dX6_take_13 rfl (lv_at hl 0 rfl) ?_
  refine lv_iconst (v := 1) hx hb dX6_take_14 (by decide) ?_
  refine gx_goi (wc := [(h0, .inr (6, [v0, v1, v2, v3, .ref a4, .ref a5, v6, v7, .int 0, v9, v10, v11])), (a5, .inl (cI, 501, .inl (upd (fun _ => 0) (Int32.toNatClampNeg 0) 0)))]) (wr := [(a4, .inl (cI, 501, .inl (upd (fun _ => 0) (Int32.toNatClampNeg 0) 21)))]) (va_runV (As := [.int 1]) (rest := []) ⟨hx, hb, hml, hown, hts⟩ (c_X6_fail l D cI cB cZ h0 a5 (v1) (v2) (v0) (v3) (.ref a4) (v6) (v7) (v9) (v10) (v11) 1 _) (cwV 1 hts gP_c_X6_take__c_X6_fail rfl rfl rfl (by decide +kernel) ⟨Nat.le_of_ble_eq_true rfl, Nat.le_of_ble_eq_true rfl⟩) (gx_preV (ci := 6) (q0 := 0) hK gN.nil hP hD [0, 2] rfl rfl rfl rfl) rfl rfl hl.1 rfl (lv_room (Nat.le_of_ble_eq_true rfl)) dX6_take_15 ⟨Nat.le_of_ble_eq_true rfl, Nat.le_of_ble_eq_true rfl⟩) hP hD hS hA [0, 2] [1] rfl rfl rfl (by decide) (fun r1 w1 H locs hp hP hD hS => ?_)
  obtain ⟨rfl, rfl⟩ := hp
  have hP : va_P D vwCl [(a4, .inl (cI, 501, .inl (upd (fun _ => 0) (Int32.toNatClampNeg 0) 21))), (h0, .inr (6, [v0, .int 0, .int 1, v3, .ref a4, .ref a5, v6, v7, .int 0, v9, v10, v11])), (a5, .inl (cI, 501, .inl (upd (fun _ => 0) (Int32.toNatClampNeg 0) 0)))] H := hP
  have hD : va_D A [(a4, .inl (cI, 501, .inl (upd (fun _ => 0) (Int32.toNatClampNeg 0) 21))), (h0, .inr (6, [v0, .int 0, .int 1, v3, .ref a4, .ref a5, v6, v7, .int 0, v9, v10, v11])), (a5, .inl (cI, 501, .inl (upd (fun _ => 0) (Int32.toNatClampNeg 0) 0)))] := hD
  refine W.widen (k := 0) (n := 0) (Nat.le_of_ble_eq_true rfl) (Nat.le_of_ble_eq_true rfl) ?_
  exact gx_zret hx hb hr hlk hK hP hD hS (Nat.le_of_ble_eq_true rfl) (Nat.le_of_ble_eq_true rfl) dX6_take_18 rfl ⟨rfl, rfl⟩
def wsP_c_X6_readCells : List Cond := .code yX6_readCells cX6_readCells 2 (some .boolean) :: ([.fieldLink RX6 22 "LitmusHall$Reader" "kinds" "[I", .fieldLink RX6 45 "LitmusHall$Reader" "at" "I"] ++ wsX60)
set_option maxHeartbeats 4000000 in
set_option maxRecDepth 100000 in
theorem c_X6_readCells (l : Launch) (D : va_G) (cI cB cZ : ClassId) (h0 : Nat) (a4 : Nat) (a5 : Nat) (v0 : Value) (v1 : Value) (v2 : Value) (v3 : Value) (v6 : Value) (v7 : Value) (v9 : Value) (v10 : Value) (v11 : Value)  : gMi l yX6_readCells wsP_c_X6_readCells ({ frames := 0, cells := 0, slots := 0, locals := 0 }) D cI cB cZ [] [.ref h0] [(h0, .inr (6, [v0, v1, v2, v3, .ref a4, .ref a5, v6, v7, .int 0, v9, v10, v11])), (a4, .inl (cI, 501, .inl (upd (fun _ => 0) (Int32.toNatClampNeg 0) 21))), (a5, .inl (cI, 501, .inl (upd (fun _ => 0) (Int32.toNatClampNeg 0) 0)))] (fun r9 w9 => r9 = 1 ∧ w9 = [(h0, .inr (6, [v0, v1, v2, v3, .ref a4, .ref a5, v6, v7, .int 0, v9, v10, v11])), (a4, .inl (cI, 501, .inl (upd (fun _ => 0) (Int32.toNatClampNeg 0) 21))), (a5, .inl (cI, 501, .inl (upd (fun _ => 0) (Int32.toNatClampNeg 0) 0)))]) := by
  refine gMi.of (cc := cX6_readCells) (maxL := 2) (ret := (some .boolean)) (by decide) rfl (Nat.le_of_ble_eq_true rfl) (fun p e s m below meth c A ls hx hb hr hlk hml hts hown hin hA hP hK hD hS hN hl => ?_)
  have hown : s.vm.findClass RX6 = some m.cls := hown
  have hl : lv_has ls 2 [(0, .ref h0)] := hl
  refine lv_iconst (v := 0) hx hb dX6_readCells_0 (by decide) ?_
  refine lv_istore_n (lv' := [(1, .int 0), (0, .ref h0)]) hx hb dX6_readCells_1 rfl hl (by decide) rfl (fun ls hl => ?_)
  refine lv_iload_n hx hb dX6_readCells_2 rfl (lv_at hl 0 rfl) ?_
  refine lv_sipush (v := 500) hx hb dX6_readCells_3 (by decide) ?_
  refine lv_icmp_gt (tgt := 38) hx hb dX6_readCells_6 (by decide) (fun c9 => absurd c9 (by decide)) (fun _ => ?_)
  refine lv_aload_n hx hb dX6_readCells_9 rfl (lv_at hl 1 rfl) ?_
  refine va_get (D := D) (ci := 6) (v := .ref a4) (C := RX6) (T := TX6) (N := 12) hx hb hts (fun _ h => List.mem_cons_of_mem _ (List.mem_append_right _ h)) hown hK hP 0 rfl rfl 4 (by decide) (hts (.fieldLink RX6 22 "LitmusHall$Reader" "kinds" "[I") (by decide +kernel)) (fun _ h9 => h9) rfl dX6_readCells_10 ?_
  refine lv_aload_n hx hb dX6_readCells_13 rfl (lv_at hl 1 rfl) ?_
  refine va_get (D := D) (ci := 6) (v := .int 0) (C := RX6) (T := TX6) (N := 12) hx hb hts (fun _ h => List.mem_cons_of_mem _ (List.mem_append_right _ h)) hown hK hP 0 rfl rfl 8 (by decide) (hts (.fieldLink RX6 45 "LitmusHall$Reader" "at" "I") (by decide +kernel)) (fun _ h9 => h9) rfl dX6_readCells_14 ?_
  refine va_iald hx hb hK hP 1 0 rfl rfl (by unfold vp_in; decide +kernel) dX6_readCells_17 ?_
  refine gx_top (y := 21) (by decide +kernel) ?_
  refine lv_bipush (v := 9) hx hb dX6_readCells_18 (by decide) ?_
  refine lv_icmp_ne (tgt := 38) hx hb dX6_readCells_20 (by decide) (fun _ => ?_) (fun c9 => absurd c9 (by decide))
  refine lv_iconst (v := 1) hx hb dX6_readCells_38 (by decide) ?_
  exact gx_zret hx hb hr hlk hK hP hD hS (Nat.le_of_ble_eq_true rfl) (Nat.le_of_ble_eq_true rfl) dX6_readCells_39 rfl ⟨rfl, rfl⟩
def wsP_c_X6_readCores : List Cond := .code yX6_readCores cX6_readCores 3 (some .boolean) :: ([.fieldLink RX6 12 "LitmusHall$Reader" "draft" "LLitmusHall$Program;", .fieldLink RX6 125 "LitmusHall$Program" "cores" "I", .methodLink RX6 102 yX6_take, .instanceMethod yX6_take, .selects RX6 yX6_take yX6_take, .initialized RX6, .fieldLink RX6 22 "LitmusHall$Reader" "kinds" "[I", .fieldLink RX6 45 "LitmusHall$Reader" "at" "I", .methodLink RX6 96 yX6_fail, .instanceMethod yX6_fail, .selects RX6 yX6_fail yX6_fail, .fieldLink RX6 39 "LitmusHall$Reader" "fault" "I", .fieldLink RX6 26 "LitmusHall$Reader" "starts" "[I", .fieldLink RX6 18 "LitmusHall$Reader" "place" "I", .code yX6_fail cX6_fail 2 (some .boolean), .code yX6_take cX6_take 2 (some .boolean)] ++ wsX60 ++ wsX40)
set_option maxRecDepth 20000 in
theorem gP_c_X6_readCores__c_X6_take : GoodIn wsP_c_X6_readCores (wsV RX6 102 RX6 yX6_take wsP_c_X6_take) := goodIn_r _ [3, 4, 5, 6, 16, 7, 8, 9, 10, 11, 6, 12, 13, 14, 15, 17, 18, 19, 20, 21, 22, 23, 24, 25, 26, 27, 28] (by decide +kernel) (by decide +kernel)
set_option maxHeartbeats 4000000 in
set_option maxRecDepth 100000 in
theorem c_X6_readCores (l : Launch) (D : va_G) (cI cB cZ : ClassId) (h0 : Nat) (d0 : Nat) (a4 : Nat) (a5 : Nat) (v1 : Value) (v2 : Value) (v3 : Value) (v6 : Value) (v7 : Value) (v9 : Value) (v10 : Value) (v11 : Value) (u0 : Value) (u1 : Value) (u2 : Value) (u3 : Value)  : gMi l yX6_readCores wsP_c_X6_readCores ({ frames := 2, cells := 0, slots := 0, locals := 42 }) D cI cB cZ [] [.ref h0] [(h0, .inr (6, [.ref d0, v1, v2, v3, .ref a4, .ref a5, v6, v7, .int 0, v9, v10, v11])), (d0, .inr (4, [u0, u1, u2, u3])), (a4, .inl (cI, 501, .inl (upd (fun _ => 0) (Int32.toNatClampNeg 0) 21))), (a5, .inl (cI, 501, .inl (upd (fun _ => 0) (Int32.toNatClampNeg 0) 0)))] (fun r9 w9 => r9 = 0 ∧ w9 = [(d0, .inr (4, [.int 1, u1, u2, u3])), (a4, .inl (cI, 501, .inl (upd (fun _ => 0) (Int32.toNatClampNeg 0) 21))), (h0, .inr (6, [.ref d0, .int 0, .int 1, v3, .ref a4, .ref a5, v6, v7, .int 0, v9, v10, v11])), (a5, .inl (cI, 501, .inl (upd (fun _ => 0) (Int32.toNatClampNeg 0) 0)))]) := by
  refine gMi.of (cc := cX6_readCores) (maxL := 3) (ret := (some .boolean)) (by decide) rfl (Nat.le_of_ble_eq_true rfl) (fun p e s m below meth c A ls hx hb hr hlk hml hts hown hin hA hP hK hD hS hN hl => ?_)
  have hown : s.vm.findClass RX6 = some m.cls := hown
  have hl : lv_has ls 3 [(0, .ref h0)] := hl
  refine lv_iconst (v := 0) hx hb dX6_readCores_0 (by decide) ?_
  refine lv_istore_n (lv' := [(1, .int 0), (0, .ref h0)]) hx hb dX6_readCores_1 rfl hl (by decide) rfl (fun ls hl => ?_)
  refine lv_iload_n hx hb dX6_readCores_2 rfl (lv_at hl 0 rfl) ?_
  refine lv_iconst (v := 3) hx hb dX6_readCores_3 (by decide) ?_
  refine lv_icmp_ge (tgt := 136) hx hb dX6_readCores_4 (by decide) (fun c9 => absurd c9 (by decide)) (fun _ => ?_)
  refine lv_iload_n hx hb dX6_readCores_7 rfl (lv_at hl 0 rfl) ?_
  refine lv_if_eq (tgt := 25) hx hb dX6_readCores_8 (by decide) (fun _ => ?_) (fun c9 => absurd (by decide) c9)
  refine lv_aload_n hx hb dX6_readCores_25 rfl (lv_at hl 1 rfl) ?_
  refine va_get (D := D) (ci := 6) (v := .ref d0) (C := RX6) (T := TX6) (N := 12) hx hb hts (fun _ h => List.mem_cons_of_mem _ (List.mem_append_left _ (List.mem_append_right _ h))) hown hK hP 0 rfl rfl 0 (by decide) (hts (.fieldLink RX6 12 "LitmusHall$Reader" "draft" "LLitmusHall$Program;") (by decide +kernel)) (fun _ h9 => h9) rfl dX6_readCores_26 ?_
  refine lv_iload_n hx hb dX6_readCores_29 rfl (lv_at hl 0 rfl) ?_
  refine lv_iconst (v := 1) hx hb dX6_readCores_30 (by decide) ?_
  refine lv_iadd hx hb dX6_readCores_31 ?_
  refine gx_top (y := 1) (by decide +kernel) ?_
  refine va_put (D := D) (ci := 4) (v := .int 1) (ty := .int) (C := RX4) (T := TX4) (N := 4) hx hb hts (fun _ h => List.mem_cons_of_mem _ (List.mem_append_right _ h)) tyX4 tyX4_ok nmX4 hown hK hP hD hS 1 rfl rfl 0 (by decide) (hts (.fieldLink RX6 125 "LitmusHall$Program" "cores" "I") (by decide +kernel)) (fun _ h9 => h9) rfl (by decide +kernel) rfl rfl (Nat.le_of_ble_eq_true rfl) dX6_readCores_32 (fun H locs hP hD hS => ?_)
  have hP : va_P D vwCl [(h0, .inr (6, [.ref d0, v1, v2, v3, .ref a4, .ref a5, v6, v7, .int 0, v9, v10, v11])), (d0, .inr (4, [.int 1, u1, u2, u3])), (a4, .inl (cI, 501, .inl (upd (fun _ => 0) (Int32.toNatClampNeg 0) 21))), (a5, .inl (cI, 501, .inl (upd (fun _ => 0) (Int32.toNatClampNeg 0) 0)))] H := hP
  have hD : va_D A [(h0, .inr (6, [.ref d0, v1, v2, v3, .ref a4, .ref a5, v6, v7, .int 0, v9, v10, v11])), (d0, .inr (4, [.int 1, u1, u2, u3])), (a4, .inl (cI, 501, .inl (upd (fun _ => 0) (Int32.toNatClampNeg 0) 21))), (a5, .inl (cI, 501, .inl (upd (fun _ => 0) (Int32.toNatClampNeg 0) 0)))] := hD
  refine lv_aload_n hx hb dX6_readCores_35 rfl (lv_at hl 1 rfl) ?_
  refine lv_bipush (v := 10) hx hb dX6_readCores_36 (by decide) ?_
  refine gx_goi (wc := [(h0, .inr (6, [.ref d0, v1, v2, v3, .ref a4, .ref a5, v6, v7, .int 0, v9, v10, v11])), (a4, .inl (cI, 501, .inl (upd (fun _ => 0) (Int32.toNatClampNeg 0) 21))), (a5, .inl (cI, 501, .inl (upd (fun _ => 0) (Int32.toNatClampNeg 0) 0)))]) (wr := [(d0, .inr (4, [.int 1, u1, u2, u3]))]) (va_runV (As := [.int 10]) (rest := []) ⟨hx, hb, hml, hown, hts⟩ (c_X6_take l D cI cB cZ h0 a4 a5 (.ref d0) (v1) (v2) (v3) (v6) (v7) (v9) (v10) (v11) _) (cwV 1 hts gP_c_X6_readCores__c_X6_take rfl rfl rfl (by decide +kernel) ⟨Nat.le_of_ble_eq_true rfl, Nat.le_of_ble_eq_true rfl⟩) (gx_preV (ci := 6) (q0 := 0) hK gN.nil hP hD [0, 2, 3] rfl rfl rfl rfl) rfl rfl hl.1 rfl (lv_room (Nat.le_of_ble_eq_true rfl)) dX6_readCores_38 ⟨Nat.le_of_ble_eq_true rfl, Nat.le_of_ble_eq_true rfl⟩) hP hD hS hA [0, 2, 3] [1] rfl rfl rfl (by decide) (fun r1 w1 H locs hp hP hD hS => ?_)
  obtain ⟨rfl, rfl⟩ := hp
  have hP : va_P D vwCl [(d0, .inr (4, [.int 1, u1, u2, u3])), (a4, .inl (cI, 501, .inl (upd (fun _ => 0) (Int32.toNatClampNeg 0) 21))), (h0, .inr (6, [.ref d0, .int 0, .int 1, v3, .ref a4, .ref a5, v6, v7, .int 0, v9, v10, v11])), (a5, .inl (cI, 501, .inl (upd (fun _ => 0) (Int32.toNatClampNeg 0) 0)))] H := hP
  have hD : va_D A [(d0, .inr (4, [.int 1, u1, u2, u3])), (a4, .inl (cI, 501, .inl (upd (fun _ => 0) (Int32.toNatClampNeg 0) 21))), (h0, .inr (6, [.ref d0, .int 0, .int 1, v3, .ref a4, .ref a5, v6, v7, .int 0, v9, v10, v11])), (a5, .inl (cI, 501, .inl (upd (fun _ => 0) (Int32.toNatClampNeg 0) 0)))] := hD
  refine W.widen (k := 0) (n := 0) (Nat.le_of_ble_eq_true rfl) (Nat.le_of_ble_eq_true rfl) ?_
  refine lv_if_eq (tgt := 53) hx hb dX6_readCores_41 (by decide) (fun _ => ?_) (fun c9 => absurd (by decide) c9)
  refine lv_iconst (v := 0) hx hb dX6_readCores_53 (by decide) ?_
  exact gx_zret hx hb hr hlk hK hP hD hS (Nat.le_of_ble_eq_true rfl) (Nat.le_of_ble_eq_true rfl) dX6_readCores_54 rfl ⟨rfl, rfl⟩
def wsP_c_X6_readText : List Cond := .code yX6_readText cX6_readText 3 (some .int) :: ([.methodLink RX6 35 yX6_scan, .instanceMethod yX6_scan, .selects RX6 yX6_scan yX6_scan, .initialized RX6, .methodLink RX6 61 yX6_behindBlanks, .static yX6_behindBlanks, .code yX6_behindBlanks cX6_behindBlanks 5 (some .int), .fieldLink RX6 26 "LitmusHall$Reader" "starts" "[I", .fieldLink RX6 22 "LitmusHall$Reader" "kinds" "[I", .code yX6_scan cX6_scan 6 none, .fieldLink RX6 39 "LitmusHall$Reader" "fault" "I", .fieldLink RX6 18 "LitmusHall$Reader" "place" "I", .fieldLink RX6 42 "LitmusHall$Reader" "latePlace" "I", .fieldLink RX6 45 "LitmusHall$Reader" "at" "I", .fieldLink RX6 48 "LitmusHall$Reader" "told" "I", .fieldLink RX6 12 "LitmusHall$Reader" "draft" "LLitmusHall$Program;", .methodLink RX6 51 yX4_clear, .instanceMethod yX4_clear, .selects RX4 yX4_clear yX4_clear, .initialized RX4, .fieldLink RX4 21 "LitmusHall$Program" "cores" "I", .fieldLink RX4 9 "LitmusHall$Program" "lengths" "[I", .methodLink RX4 25 yJ7_fill_53178, .static yJ7_fill_53178, .initialized RJ7, .code yJ7_fill_53178 cJ7_fill_53178 4 none, .fieldLink RX4 15 "LitmusHall$Program" "cells" "[I", .code yX4_clear cX4_clear 1 none, .methodLink RX6 54 yX6_readCells, .instanceMethod yX6_readCells, .selects RX6 yX6_readCells yX6_readCells, .code yX6_readCells cX6_readCells 2 (some .boolean), .methodLink RX6 58 yX6_readCores, .instanceMethod yX6_readCores, .selects RX6 yX6_readCores yX6_readCores, .fieldLink RX6 125 "LitmusHall$Program" "cores" "I", .methodLink RX6 102 yX6_take, .instanceMethod yX6_take, .selects RX6 yX6_take yX6_take, .methodLink RX6 96 yX6_fail, .instanceMethod yX6_fail, .selects RX6 yX6_fail yX6_fail, .code yX6_fail cX6_fail 2 (some .boolean), .code yX6_take cX6_take 2 (some .boolean), .code yX6_readCores cX6_readCores 3 (some .boolean)] ++ wsX60 ++ wsX40)
set_option maxRecDepth 20000 in
theorem gP_c_X6_readText__c_X6_scan : GoodIn wsP_c_X6_readText (wsV RX6 35 RX6 yX6_scan wsP_c_X6_scan) := goodIn_r _ [1, 2, 3, 4, 10, 5, 6, 4, 7, 8, 9, 46, 47, 48, 49, 50, 51, 52, 53, 54, 55, 56, 57] (by decide +kernel) (by decide +kernel)
set_option maxRecDepth 20000 in
theorem gP_c_X6_readText__c_X4_clear : GoodIn wsP_c_X6_readText (wsV RX6 51 RX4 yX4_clear wsP_c_X4_clear) := goodIn_r _ [17, 18, 19, 20, 28, 21, 22, 23, 24, 25, 26, 27, 58, 59, 60, 61] (by decide +kernel) (by decide +kernel)
set_option maxRecDepth 20000 in
theorem gP_c_X6_readText__c_X6_readCells : GoodIn wsP_c_X6_readText (wsV RX6 54 RX6 yX6_readCells wsP_c_X6_readCells) := goodIn_r _ [29, 30, 31, 4, 32, 9, 14, 46, 47, 48, 49, 50, 51, 52, 53, 54, 55, 56, 57] (by decide +kernel) (by decide +kernel)
set_option maxRecDepth 20000 in
theorem gP_c_X6_readText__c_X6_readCores : GoodIn wsP_c_X6_readText (wsV RX6 58 RX6 yX6_readCores wsP_c_X6_readCores) := goodIn_r _ [33, 34, 35, 4, 45, 16, 36, 37, 38, 39, 4, 9, 14, 40, 41, 42, 11, 8, 12, 43, 44, 46, 47, 48, 49, 50, 51, 52, 53, 54, 55, 56, 57, 58, 59, 60, 61] (by decide +kernel) (by decide +kernel)
set_option maxHeartbeats 4000000 in
set_option maxRecDepth 100000 in
theorem c_X6_readText (l : Launch) (D : va_G) (cI cB cZ : ClassId) (h0 : Nat) (d0 : Nat) (a4 : Nat) (a5 : Nat) (d1 : Nat) (d2 : Nat) (a : Nat) (f : Nat → Int32) (v1 : Value) (v2 : Value) (v3 : Value) (v6 : Value) (v7 : Value) (v8 : Value) (v9 : Value) (v10 : Value) (v11 : Value) (u0 : Value) (u3 : Value)  : gMi l yX6_readText wsP_c_X6_readText ({ frames := 3, cells := 0, slots := 0, locals := 64 }) D cI cB cZ [] [.ref h0, .ref a, .int 0] [(h0, .inr (6, [.ref d0, v1, v2, v3, .ref a4, .ref a5, v6, v7, v8, v9, v10, v11])), (d0, .inr (4, [u0, .ref d1, .ref d2, u3])), (a4, .inl (cI, 501, .inl (fun _ => 0))), (a5, .inl (cI, 501, .inl (fun _ => 0))), (d1, .inl (cI, 3, .inl (fun _ => 0))), (d2, .inl (cI, 4, .inl (fun _ => 0))), (a, .inl (cB, 4000, .inl f))] (fun r9 w9 => r9 = 1 ∧ w9 = [(a, .inl (cB, 4000, .inl f)), (d1, .inl (cI, 3, .inl (upd (upd (upd (fun _ => 0) (Int32.toNatClampNeg 0) 0) (Int32.toNatClampNeg 1) 0) (Int32.toNatClampNeg 2) 0))), (d2, .inl (cI, 4, .inl (upd (upd (upd (upd (fun _ => 0) (Int32.toNatClampNeg 0) 0) (Int32.toNatClampNeg 1) 0) (Int32.toNatClampNeg 2) 0) (Int32.toNatClampNeg 3) 0))), (d0, .inr (4, [.int 1, .ref d1, .ref d2, u3])), (a4, .inl (cI, 501, .inl (upd (fun _ => 0) (Int32.toNatClampNeg 0) 21))), (h0, .inr (6, [.ref d0, .int 0, .int 1, .int (-1), .ref a4, .ref a5, v6, v7, .int 0, .int 0, v10, v11])), (a5, .inl (cI, 501, .inl (upd (fun _ => 0) (Int32.toNatClampNeg 0) 0)))]) := by
  refine gMi.of (cc := cX6_readText) (maxL := 3) (ret := (some .int)) (by decide) rfl (Nat.le_of_ble_eq_true rfl) (fun p e s m below meth c A ls hx hb hr hlk hml hts hown hin hA hP hK hD hS hN hl => ?_)
  have hown : s.vm.findClass RX6 = some m.cls := hown
  have hl : lv_has ls 3 [(0, .ref h0), (1, .ref a), (2, .int 0)] := hl
  refine lv_aload_n hx hb dX6_readText_0 rfl (lv_at hl 0 rfl) ?_
  refine lv_aload_n hx hb dX6_readText_1 rfl (lv_at hl 1 rfl) ?_
  refine lv_iload_n hx hb dX6_readText_2 rfl (lv_at hl 2 rfl) ?_
  refine gx_gov (wc := [(h0, .inr (6, [.ref d0, v1, v2, v3, .ref a4, .ref a5, v6, v7, v8, v9, v10, v11])), (a4, .inl (cI, 501, .inl (fun _ => 0))), (a5, .inl (cI, 501, .inl (fun _ => 0))), (a, .inl (cB, 4000, .inl f))]) (wr := [(d0, .inr (4, [u0, .ref d1, .ref d2, u3])), (d1, .inl (cI, 3, .inl (fun _ => 0))), (d2, .inl (cI, 4, .inl (fun _ => 0)))]) (va_runV (As := [.ref a, .int 0]) (rest := []) ⟨hx, hb, hml, hown, hts⟩ (c_X6_scan l D cI cB cZ h0 a4 a5 a f (.ref d0) (v1) (v2) (v3) (v6) (v7) (v8) (v9) (v10) (v11) _) (cwV 2 hts gP_c_X6_readText__c_X6_scan rfl rfl rfl (by decide +kernel) ⟨Nat.le_of_ble_eq_true rfl, Nat.le_of_ble_eq_true rfl⟩) (gx_preV (ci := 6) (q0 := 0) hK gN.nil hP hD [0, 2, 3, 6] rfl rfl rfl rfl) rfl rfl hl.1 rfl (lv_room (Nat.le_of_ble_eq_true rfl)) dX6_readText_3 ⟨Nat.le_of_ble_eq_true rfl, Nat.le_of_ble_eq_true rfl⟩) hP hD hS hA [0, 2, 3, 6] [1, 4, 5] rfl rfl rfl (by decide) (fun w1 H locs hp hP hD hS => ?_)
  obtain ⟨rfl⟩ := hp
  have hP : va_P D vwCl [(d0, .inr (4, [u0, .ref d1, .ref d2, u3])), (d1, .inl (cI, 3, .inl (fun _ => 0))), (d2, .inl (cI, 4, .inl (fun _ => 0))), (h0, .inr (6, [.ref d0, v1, v2, v3, .ref a4, .ref a5, v6, v7, v8, v9, v10, v11])), (a4, .inl (cI, 501, .inl (upd (fun _ => 0) (Int32.toNatClampNeg 0) 21))), (a5, .inl (cI, 501, .inl (upd (fun _ => 0) (Int32.toNatClampNeg 0) 0))), (a, .inl (cB, 4000, .inl f))] H := hP
  have hD : va_D A [(d0, .inr (4, [u0, .ref d1, .ref d2, u3])), (d1, .inl (cI, 3, .inl (fun _ => 0))), (d2, .inl (cI, 4, .inl (fun _ => 0))), (h0, .inr (6, [.ref d0, v1, v2, v3, .ref a4, .ref a5, v6, v7, v8, v9, v10, v11])), (a4, .inl (cI, 501, .inl (upd (fun _ => 0) (Int32.toNatClampNeg 0) 21))), (a5, .inl (cI, 501, .inl (upd (fun _ => 0) (Int32.toNatClampNeg 0) 0))), (a, .inl (cB, 4000, .inl f))] := hD
  refine W.widen (k := 0) (n := 0) (Nat.le_of_ble_eq_true rfl) (Nat.le_of_ble_eq_true rfl) ?_
  refine lv_aload_n hx hb dX6_readText_6 rfl (lv_at hl 0 rfl) ?_
  refine lv_iconst (v := 0) hx hb dX6_readText_7 (by decide) ?_
  refine va_put (D := D) (ci := 6) (v := .int 0) (ty := .int) (C := RX6) (T := TX6) (N := 12) hx hb hts (fun _ h => List.mem_cons_of_mem _ (List.mem_append_left _ (List.mem_append_right _ h))) tyX6 tyX6_ok nmX6 hown hK hP hD hS 3 rfl rfl 2 (by decide) (hts (.fieldLink RX6 39 "LitmusHall$Reader" "fault" "I") (by decide +kernel)) (fun _ h9 => h9) rfl (by decide +kernel) rfl rfl (Nat.le_of_ble_eq_true rfl) dX6_readText_8 (fun H locs hP hD hS => ?_)
  have hP : va_P D vwCl [(d0, .inr (4, [u0, .ref d1, .ref d2, u3])), (d1, .inl (cI, 3, .inl (fun _ => 0))), (d2, .inl (cI, 4, .inl (fun _ => 0))), (h0, .inr (6, [.ref d0, v1, .int 0, v3, .ref a4, .ref a5, v6, v7, v8, v9, v10, v11])), (a4, .inl (cI, 501, .inl (upd (fun _ => 0) (Int32.toNatClampNeg 0) 21))), (a5, .inl (cI, 501, .inl (upd (fun _ => 0) (Int32.toNatClampNeg 0) 0))), (a, .inl (cB, 4000, .inl f))] H := hP
  have hD : va_D A [(d0, .inr (4, [u0, .ref d1, .ref d2, u3])), (d1, .inl (cI, 3, .inl (fun _ => 0))), (d2, .inl (cI, 4, .inl (fun _ => 0))), (h0, .inr (6, [.ref d0, v1, .int 0, v3, .ref a4, .ref a5, v6, v7, v8, v9, v10, v11])), (a4, .inl (cI, 501, .inl (upd (fun _ => 0) (Int32.toNatClampNeg 0) 21))), (a5, .inl (cI, 501, .inl (upd (fun _ => 0) (Int32.toNatClampNeg 0) 0))), (a, .inl (cB, 4000, .inl f))] := hD
  refine lv_aload_n hx hb dX6_readText_11 rfl (lv_at hl 0 rfl) ?_
  refine lv_iconst (v := (-1)) hx hb dX6_readText_12 (by decide) ?_
  refine va_put (D := D) (ci := 6) (v := .int (-1)) (ty := .int) (C := RX6) (T := TX6) (N := 12) hx hb hts (fun _ h => List.mem_cons_of_mem _ (List.mem_append_left _ (List.mem_append_right _ h))) tyX6 tyX6_ok nmX6 hown hK hP hD hS 3 rfl rfl 1 (by decide) (hts (.fieldLink RX6 18 "LitmusHall$Reader" "place" "I") (by decide +kernel)) (fun _ h9 => h9) rfl (by decide +kernel) rfl rfl (Nat.le_of_ble_eq_true rfl) dX6_readText_13 (fun H locs hP hD hS => ?_)
  have hP : va_P D vwCl [(d0, .inr (4, [u0, .ref d1, .ref d2, u3])), (d1, .inl (cI, 3, .inl (fun _ => 0))), (d2, .inl (cI, 4, .inl (fun _ => 0))), (h0, .inr (6, [.ref d0, .int (-1), .int 0, v3, .ref a4, .ref a5, v6, v7, v8, v9, v10, v11])), (a4, .inl (cI, 501, .inl (upd (fun _ => 0) (Int32.toNatClampNeg 0) 21))), (a5, .inl (cI, 501, .inl (upd (fun _ => 0) (Int32.toNatClampNeg 0) 0))), (a, .inl (cB, 4000, .inl f))] H := hP
  have hD : va_D A [(d0, .inr (4, [u0, .ref d1, .ref d2, u3])), (d1, .inl (cI, 3, .inl (fun _ => 0))), (d2, .inl (cI, 4, .inl (fun _ => 0))), (h0, .inr (6, [.ref d0, .int (-1), .int 0, v3, .ref a4, .ref a5, v6, v7, v8, v9, v10, v11])), (a4, .inl (cI, 501, .inl (upd (fun _ => 0) (Int32.toNatClampNeg 0) 21))), (a5, .inl (cI, 501, .inl (upd (fun _ => 0) (Int32.toNatClampNeg 0) 0))), (a, .inl (cB, 4000, .inl f))] := hD
  refine lv_aload_n hx hb dX6_readText_16 rfl (lv_at hl 0 rfl) ?_
  refine lv_iconst (v := (-1)) hx hb dX6_readText_17 (by decide) ?_
  refine va_put (D := D) (ci := 6) (v := .int (-1)) (ty := .int) (C := RX6) (T := TX6) (N := 12) hx hb hts (fun _ h => List.mem_cons_of_mem _ (List.mem_append_left _ (List.mem_append_right _ h))) tyX6 tyX6_ok nmX6 hown hK hP hD hS 3 rfl rfl 3 (by decide) (hts (.fieldLink RX6 42 "LitmusHall$Reader" "latePlace" "I") (by decide +kernel)) (fun _ h9 => h9) rfl (by decide +kernel) rfl rfl (Nat.le_of_ble_eq_true rfl) dX6_readText_18 (fun H locs hP hD hS => ?_)
  have hP : va_P D vwCl [(d0, .inr (4, [u0, .ref d1, .ref d2, u3])), (d1, .inl (cI, 3, .inl (fun _ => 0))), (d2, .inl (cI, 4, .inl (fun _ => 0))), (h0, .inr (6, [.ref d0, .int (-1), .int 0, .int (-1), .ref a4, .ref a5, v6, v7, v8, v9, v10, v11])), (a4, .inl (cI, 501, .inl (upd (fun _ => 0) (Int32.toNatClampNeg 0) 21))), (a5, .inl (cI, 501, .inl (upd (fun _ => 0) (Int32.toNatClampNeg 0) 0))), (a, .inl (cB, 4000, .inl f))] H := hP
  have hD : va_D A [(d0, .inr (4, [u0, .ref d1, .ref d2, u3])), (d1, .inl (cI, 3, .inl (fun _ => 0))), (d2, .inl (cI, 4, .inl (fun _ => 0))), (h0, .inr (6, [.ref d0, .int (-1), .int 0, .int (-1), .ref a4, .ref a5, v6, v7, v8, v9, v10, v11])), (a4, .inl (cI, 501, .inl (upd (fun _ => 0) (Int32.toNatClampNeg 0) 21))), (a5, .inl (cI, 501, .inl (upd (fun _ => 0) (Int32.toNatClampNeg 0) 0))), (a, .inl (cB, 4000, .inl f))] := hD
  refine lv_aload_n hx hb dX6_readText_21 rfl (lv_at hl 0 rfl) ?_
  refine lv_iconst (v := 0) hx hb dX6_readText_22 (by decide) ?_
  refine va_put (D := D) (ci := 6) (v := .int 0) (ty := .int) (C := RX6) (T := TX6) (N := 12) hx hb hts (fun _ h => List.mem_cons_of_mem _ (List.mem_append_left _ (List.mem_append_right _ h))) tyX6 tyX6_ok nmX6 hown hK hP hD hS 3 rfl rfl 8 (by decide) (hts (.fieldLink RX6 45 "LitmusHall$Reader" "at" "I") (by decide +kernel)) (fun _ h9 => h9) rfl (by decide +kernel) rfl rfl (Nat.le_of_ble_eq_true rfl) dX6_readText_23 (fun H locs hP hD hS => ?_)
  have hP : va_P D vwCl [(d0, .inr (4, [u0, .ref d1, .ref d2, u3])), (d1, .inl (cI, 3, .inl (fun _ => 0))), (d2, .inl (cI, 4, .inl (fun _ => 0))), (h0, .inr (6, [.ref d0, .int (-1), .int 0, .int (-1), .ref a4, .ref a5, v6, v7, .int 0, v9, v10, v11])), (a4, .inl (cI, 501, .inl (upd (fun _ => 0) (Int32.toNatClampNeg 0) 21))), (a5, .inl (cI, 501, .inl (upd (fun _ => 0) (Int32.toNatClampNeg 0) 0))), (a, .inl (cB, 4000, .inl f))] H := hP
  have hD : va_D A [(d0, .inr (4, [u0, .ref d1, .ref d2, u3])), (d1, .inl (cI, 3, .inl (fun _ => 0))), (d2, .inl (cI, 4, .inl (fun _ => 0))), (h0, .inr (6, [.ref d0, .int (-1), .int 0, .int (-1), .ref a4, .ref a5, v6, v7, .int 0, v9, v10, v11])), (a4, .inl (cI, 501, .inl (upd (fun _ => 0) (Int32.toNatClampNeg 0) 21))), (a5, .inl (cI, 501, .inl (upd (fun _ => 0) (Int32.toNatClampNeg 0) 0))), (a, .inl (cB, 4000, .inl f))] := hD
  refine lv_aload_n hx hb dX6_readText_26 rfl (lv_at hl 0 rfl) ?_
  refine lv_iconst (v := 0) hx hb dX6_readText_27 (by decide) ?_
  refine va_put (D := D) (ci := 6) (v := .int 0) (ty := .int) (C := RX6) (T := TX6) (N := 12) hx hb hts (fun _ h => List.mem_cons_of_mem _ (List.mem_append_left _ (List.mem_append_right _ h))) tyX6 tyX6_ok nmX6 hown hK hP hD hS 3 rfl rfl 9 (by decide) (hts (.fieldLink RX6 48 "LitmusHall$Reader" "told" "I") (by decide +kernel)) (fun _ h9 => h9) rfl (by decide +kernel) rfl rfl (Nat.le_of_ble_eq_true rfl) dX6_readText_28 (fun H locs hP hD hS => ?_)
  have hP : va_P D vwCl [(d0, .inr (4, [u0, .ref d1, .ref d2, u3])), (d1, .inl (cI, 3, .inl (fun _ => 0))), (d2, .inl (cI, 4, .inl (fun _ => 0))), (h0, .inr (6, [.ref d0, .int (-1), .int 0, .int (-1), .ref a4, .ref a5, v6, v7, .int 0, .int 0, v10, v11])), (a4, .inl (cI, 501, .inl (upd (fun _ => 0) (Int32.toNatClampNeg 0) 21))), (a5, .inl (cI, 501, .inl (upd (fun _ => 0) (Int32.toNatClampNeg 0) 0))), (a, .inl (cB, 4000, .inl f))] H := hP
  have hD : va_D A [(d0, .inr (4, [u0, .ref d1, .ref d2, u3])), (d1, .inl (cI, 3, .inl (fun _ => 0))), (d2, .inl (cI, 4, .inl (fun _ => 0))), (h0, .inr (6, [.ref d0, .int (-1), .int 0, .int (-1), .ref a4, .ref a5, v6, v7, .int 0, .int 0, v10, v11])), (a4, .inl (cI, 501, .inl (upd (fun _ => 0) (Int32.toNatClampNeg 0) 21))), (a5, .inl (cI, 501, .inl (upd (fun _ => 0) (Int32.toNatClampNeg 0) 0))), (a, .inl (cB, 4000, .inl f))] := hD
  refine lv_aload_n hx hb dX6_readText_31 rfl (lv_at hl 0 rfl) ?_
  refine va_get (D := D) (ci := 6) (v := .ref d0) (C := RX6) (T := TX6) (N := 12) hx hb hts (fun _ h => List.mem_cons_of_mem _ (List.mem_append_left _ (List.mem_append_right _ h))) hown hK hP 3 rfl rfl 0 (by decide) (hts (.fieldLink RX6 12 "LitmusHall$Reader" "draft" "LLitmusHall$Program;") (by decide +kernel)) (fun _ h9 => h9) rfl dX6_readText_32 ?_
  refine gx_gov (wc := [(d0, .inr (4, [u0, .ref d1, .ref d2, u3])), (d1, .inl (cI, 3, .inl (fun _ => 0))), (d2, .inl (cI, 4, .inl (fun _ => 0)))]) (wr := [(h0, .inr (6, [.ref d0, .int (-1), .int 0, .int (-1), .ref a4, .ref a5, v6, v7, .int 0, .int 0, v10, v11])), (a4, .inl (cI, 501, .inl (upd (fun _ => 0) (Int32.toNatClampNeg 0) 21))), (a5, .inl (cI, 501, .inl (upd (fun _ => 0) (Int32.toNatClampNeg 0) 0))), (a, .inl (cB, 4000, .inl f))]) (va_runV (As := []) (rest := []) ⟨hx, hb, hml, hown, hts⟩ (c_X4_clear l D cI cB cZ d0 d1 d2 (u0) (u3) _) (cwV 0 hts gP_c_X6_readText__c_X4_clear rfl rfl rfl (by decide +kernel) ⟨Nat.le_of_ble_eq_true rfl, Nat.le_of_ble_eq_true rfl⟩) (gx_preV (ci := 4) (q0 := 0) hK gN.nil hP hD [0, 1, 2] rfl rfl rfl rfl) rfl rfl hl.1 rfl (lv_room (Nat.le_of_ble_eq_true rfl)) dX6_readText_35 ⟨Nat.le_of_ble_eq_true rfl, Nat.le_of_ble_eq_true rfl⟩) hP hD hS hA [0, 1, 2] [3, 4, 5, 6] rfl rfl rfl (by decide) (fun w1 H locs hp hP hD hS => ?_)
  obtain ⟨rfl⟩ := hp
  have hP : va_P D vwCl [(h0, .inr (6, [.ref d0, .int (-1), .int 0, .int (-1), .ref a4, .ref a5, v6, v7, .int 0, .int 0, v10, v11])), (a4, .inl (cI, 501, .inl (upd (fun _ => 0) (Int32.toNatClampNeg 0) 21))), (a5, .inl (cI, 501, .inl (upd (fun _ => 0) (Int32.toNatClampNeg 0) 0))), (a, .inl (cB, 4000, .inl f)), (d0, .inr (4, [.int 0, .ref d1, .ref d2, u3])), (d1, .inl (cI, 3, .inl (upd (upd (upd (fun _ => 0) (Int32.toNatClampNeg 0) 0) (Int32.toNatClampNeg 1) 0) (Int32.toNatClampNeg 2) 0))), (d2, .inl (cI, 4, .inl (upd (upd (upd (upd (fun _ => 0) (Int32.toNatClampNeg 0) 0) (Int32.toNatClampNeg 1) 0) (Int32.toNatClampNeg 2) 0) (Int32.toNatClampNeg 3) 0)))] H := hP
  have hD : va_D A [(h0, .inr (6, [.ref d0, .int (-1), .int 0, .int (-1), .ref a4, .ref a5, v6, v7, .int 0, .int 0, v10, v11])), (a4, .inl (cI, 501, .inl (upd (fun _ => 0) (Int32.toNatClampNeg 0) 21))), (a5, .inl (cI, 501, .inl (upd (fun _ => 0) (Int32.toNatClampNeg 0) 0))), (a, .inl (cB, 4000, .inl f)), (d0, .inr (4, [.int 0, .ref d1, .ref d2, u3])), (d1, .inl (cI, 3, .inl (upd (upd (upd (fun _ => 0) (Int32.toNatClampNeg 0) 0) (Int32.toNatClampNeg 1) 0) (Int32.toNatClampNeg 2) 0))), (d2, .inl (cI, 4, .inl (upd (upd (upd (upd (fun _ => 0) (Int32.toNatClampNeg 0) 0) (Int32.toNatClampNeg 1) 0) (Int32.toNatClampNeg 2) 0) (Int32.toNatClampNeg 3) 0)))] := hD
  refine W.widen (k := 0) (n := 0) (Nat.le_of_ble_eq_true rfl) (Nat.le_of_ble_eq_true rfl) ?_
  refine lv_aload_n hx hb dX6_readText_38 rfl (lv_at hl 0 rfl) ?_
  refine gx_goi (wc := [(h0, .inr (6, [.ref d0, .int (-1), .int 0, .int (-1), .ref a4, .ref a5, v6, v7, .int 0, .int 0, v10, v11])), (a4, .inl (cI, 501, .inl (upd (fun _ => 0) (Int32.toNatClampNeg 0) 21))), (a5, .inl (cI, 501, .inl (upd (fun _ => 0) (Int32.toNatClampNeg 0) 0)))]) (wr := [(a, .inl (cB, 4000, .inl f)), (d0, .inr (4, [.int 0, .ref d1, .ref d2, u3])), (d1, .inl (cI, 3, .inl (upd (upd (upd (fun _ => 0) (Int32.toNatClampNeg 0) 0) (Int32.toNatClampNeg 1) 0) (Int32.toNatClampNeg 2) 0))), (d2, .inl (cI, 4, .inl (upd (upd (upd (upd (fun _ => 0) (Int32.toNatClampNeg 0) 0) (Int32.toNatClampNeg 1) 0) (Int32.toNatClampNeg 2) 0) (Int32.toNatClampNeg 3) 0)))]) (va_runV (As := []) (rest := []) ⟨hx, hb, hml, hown, hts⟩ (c_X6_readCells l D cI cB cZ h0 a4 a5 (.ref d0) (.int (-1)) (.int 0) (.int (-1)) (v6) (v7) (.int 0) (v10) (v11) _) (cwV 0 hts gP_c_X6_readText__c_X6_readCells rfl rfl rfl (by decide +kernel) ⟨Nat.le_of_ble_eq_true rfl, Nat.le_of_ble_eq_true rfl⟩) (gx_preV (ci := 6) (q0 := 0) hK gN.nil hP hD [0, 1, 2] rfl rfl rfl rfl) rfl rfl hl.1 rfl (lv_room (Nat.le_of_ble_eq_true rfl)) dX6_readText_39 ⟨Nat.le_of_ble_eq_true rfl, Nat.le_of_ble_eq_true rfl⟩) hP hD hS hA [0, 1, 2] [3, 4, 5, 6] rfl rfl rfl (by decide) (fun r1 w1 H locs hp hP hD hS => ?_)
  obtain ⟨rfl, rfl⟩ := hp
  have hP : va_P D vwCl [(a, .inl (cB, 4000, .inl f)), (d0, .inr (4, [.int 0, .ref d1, .ref d2, u3])), (d1, .inl (cI, 3, .inl (upd (upd (upd (fun _ => 0) (Int32.toNatClampNeg 0) 0) (Int32.toNatClampNeg 1) 0) (Int32.toNatClampNeg 2) 0))), (d2, .inl (cI, 4, .inl (upd (upd (upd (upd (fun _ => 0) (Int32.toNatClampNeg 0) 0) (Int32.toNatClampNeg 1) 0) (Int32.toNatClampNeg 2) 0) (Int32.toNatClampNeg 3) 0))), (h0, .inr (6, [.ref d0, .int (-1), .int 0, .int (-1), .ref a4, .ref a5, v6, v7, .int 0, .int 0, v10, v11])), (a4, .inl (cI, 501, .inl (upd (fun _ => 0) (Int32.toNatClampNeg 0) 21))), (a5, .inl (cI, 501, .inl (upd (fun _ => 0) (Int32.toNatClampNeg 0) 0)))] H := hP
  have hD : va_D A [(a, .inl (cB, 4000, .inl f)), (d0, .inr (4, [.int 0, .ref d1, .ref d2, u3])), (d1, .inl (cI, 3, .inl (upd (upd (upd (fun _ => 0) (Int32.toNatClampNeg 0) 0) (Int32.toNatClampNeg 1) 0) (Int32.toNatClampNeg 2) 0))), (d2, .inl (cI, 4, .inl (upd (upd (upd (upd (fun _ => 0) (Int32.toNatClampNeg 0) 0) (Int32.toNatClampNeg 1) 0) (Int32.toNatClampNeg 2) 0) (Int32.toNatClampNeg 3) 0))), (h0, .inr (6, [.ref d0, .int (-1), .int 0, .int (-1), .ref a4, .ref a5, v6, v7, .int 0, .int 0, v10, v11])), (a4, .inl (cI, 501, .inl (upd (fun _ => 0) (Int32.toNatClampNeg 0) 21))), (a5, .inl (cI, 501, .inl (upd (fun _ => 0) (Int32.toNatClampNeg 0) 0)))] := hD
  refine W.widen (k := 0) (n := 0) (Nat.le_of_ble_eq_true rfl) (Nat.le_of_ble_eq_true rfl) ?_
  refine lv_if_eq (tgt := 73) hx hb dX6_readText_42 (by decide) (fun c9 => absurd c9 (by decide)) (fun _ => ?_)
  refine lv_aload_n hx hb dX6_readText_45 rfl (lv_at hl 0 rfl) ?_
  refine gx_goi (wc := [(h0, .inr (6, [.ref d0, .int (-1), .int 0, .int (-1), .ref a4, .ref a5, v6, v7, .int 0, .int 0, v10, v11])), (d0, .inr (4, [.int 0, .ref d1, .ref d2, u3])), (a4, .inl (cI, 501, .inl (upd (fun _ => 0) (Int32.toNatClampNeg 0) 21))), (a5, .inl (cI, 501, .inl (upd (fun _ => 0) (Int32.toNatClampNeg 0) 0)))]) (wr := [(a, .inl (cB, 4000, .inl f)), (d1, .inl (cI, 3, .inl (upd (upd (upd (fun _ => 0) (Int32.toNatClampNeg 0) 0) (Int32.toNatClampNeg 1) 0) (Int32.toNatClampNeg 2) 0))), (d2, .inl (cI, 4, .inl (upd (upd (upd (upd (fun _ => 0) (Int32.toNatClampNeg 0) 0) (Int32.toNatClampNeg 1) 0) (Int32.toNatClampNeg 2) 0) (Int32.toNatClampNeg 3) 0)))]) (va_runV (As := []) (rest := []) ⟨hx, hb, hml, hown, hts⟩ (c_X6_readCores l D cI cB cZ h0 d0 a4 a5 (.int (-1)) (.int 0) (.int (-1)) (v6) (v7) (.int 0) (v10) (v11) (.int 0) (.ref d1) (.ref d2) (u3) _) (cwV 0 hts gP_c_X6_readText__c_X6_readCores rfl rfl rfl (by decide +kernel) ⟨Nat.le_of_ble_eq_true rfl, Nat.le_of_ble_eq_true rfl⟩) (gx_preV (ci := 6) (q0 := 0) hK gN.nil hP hD [4, 1, 5, 6] rfl rfl rfl rfl) rfl rfl hl.1 rfl (lv_room (Nat.le_of_ble_eq_true rfl)) dX6_readText_46 ⟨Nat.le_of_ble_eq_true rfl, Nat.le_of_ble_eq_true rfl⟩) hP hD hS hA [4, 1, 5, 6] [0, 2, 3] rfl rfl rfl (by decide) (fun r1 w1 H locs hp hP hD hS => ?_)
  obtain ⟨rfl, rfl⟩ := hp
  have hP : va_P D vwCl [(a, .inl (cB, 4000, .inl f)), (d1, .inl (cI, 3, .inl (upd (upd (upd (fun _ => 0) (Int32.toNatClampNeg 0) 0) (Int32.toNatClampNeg 1) 0) (Int32.toNatClampNeg 2) 0))), (d2, .inl (cI, 4, .inl (upd (upd (upd (upd (fun _ => 0) (Int32.toNatClampNeg 0) 0) (Int32.toNatClampNeg 1) 0) (Int32.toNatClampNeg 2) 0) (Int32.toNatClampNeg 3) 0))), (d0, .inr (4, [.int 1, .ref d1, .ref d2, u3])), (a4, .inl (cI, 501, .inl (upd (fun _ => 0) (Int32.toNatClampNeg 0) 21))), (h0, .inr (6, [.ref d0, .int 0, .int 1, .int (-1), .ref a4, .ref a5, v6, v7, .int 0, .int 0, v10, v11])), (a5, .inl (cI, 501, .inl (upd (fun _ => 0) (Int32.toNatClampNeg 0) 0)))] H := hP
  have hD : va_D A [(a, .inl (cB, 4000, .inl f)), (d1, .inl (cI, 3, .inl (upd (upd (upd (fun _ => 0) (Int32.toNatClampNeg 0) 0) (Int32.toNatClampNeg 1) 0) (Int32.toNatClampNeg 2) 0))), (d2, .inl (cI, 4, .inl (upd (upd (upd (upd (fun _ => 0) (Int32.toNatClampNeg 0) 0) (Int32.toNatClampNeg 1) 0) (Int32.toNatClampNeg 2) 0) (Int32.toNatClampNeg 3) 0))), (d0, .inr (4, [.int 1, .ref d1, .ref d2, u3])), (a4, .inl (cI, 501, .inl (upd (fun _ => 0) (Int32.toNatClampNeg 0) 21))), (h0, .inr (6, [.ref d0, .int 0, .int 1, .int (-1), .ref a4, .ref a5, v6, v7, .int 0, .int 0, v10, v11])), (a5, .inl (cI, 501, .inl (upd (fun _ => 0) (Int32.toNatClampNeg 0) 0)))] := hD
  refine W.widen (k := 0) (n := 0) (Nat.le_of_ble_eq_true rfl) (Nat.le_of_ble_eq_true rfl) ?_
  refine lv_if_eq (tgt := 73) hx hb dX6_readText_49 (by decide) (fun _ => ?_) (fun c9 => absurd (by decide) c9)
  refine lv_aload_n hx hb dX6_readText_73 rfl (lv_at hl 0 rfl) ?_
  refine va_get (D := D) (ci := 6) (v := .int 1) (C := RX6) (T := TX6) (N := 12) hx hb hts (fun _ h => List.mem_cons_of_mem _ (List.mem_append_left _ (List.mem_append_right _ h))) hown hK hP 5 rfl rfl 2 (by decide) (hts (.fieldLink RX6 39 "LitmusHall$Reader" "fault" "I") (by decide +kernel)) (fun _ h9 => h9) rfl dX6_readText_74 ?_
  exact gx_iret hx hb hr hlk hK hP hD hS (Nat.le_of_ble_eq_true rfl) (Nat.le_of_ble_eq_true rfl) dX6_readText_77 ⟨rfl, rfl⟩
def wsP_c_X8_read : List Cond := .code yX8_read cX8_read 3 (some .int) :: ([.fieldLink RX8 16 "LitmusHall" "reader" "LLitmusHall$Reader;", .fieldLink RX8 9 "LitmusHall" "tape" "[B", .fieldLink RX8 62 "LitmusHall" "tapeSize" "I", .methodLink RX8 69 yX6_readText, .instanceMethod yX6_readText, .selects RX6 yX6_readText yX6_readText, .initialized RX6, .methodLink RX6 35 yX6_scan, .instanceMethod yX6_scan, .selects RX6 yX6_scan yX6_scan, .methodLink RX6 61 yX6_behindBlanks, .static yX6_behindBlanks, .code yX6_behindBlanks cX6_behindBlanks 5 (some .int), .fieldLink RX6 26 "LitmusHall$Reader" "starts" "[I", .fieldLink RX6 22 "LitmusHall$Reader" "kinds" "[I", .code yX6_scan cX6_scan 6 none, .fieldLink RX6 39 "LitmusHall$Reader" "fault" "I", .fieldLink RX6 18 "LitmusHall$Reader" "place" "I", .fieldLink RX6 42 "LitmusHall$Reader" "latePlace" "I", .fieldLink RX6 45 "LitmusHall$Reader" "at" "I", .fieldLink RX6 48 "LitmusHall$Reader" "told" "I", .fieldLink RX6 12 "LitmusHall$Reader" "draft" "LLitmusHall$Program;", .methodLink RX6 51 yX4_clear, .instanceMethod yX4_clear, .selects RX4 yX4_clear yX4_clear, .initialized RX4, .fieldLink RX4 21 "LitmusHall$Program" "cores" "I", .fieldLink RX4 9 "LitmusHall$Program" "lengths" "[I", .methodLink RX4 25 yJ7_fill_53178, .static yJ7_fill_53178, .initialized RJ7, .code yJ7_fill_53178 cJ7_fill_53178 4 none, .fieldLink RX4 15 "LitmusHall$Program" "cells" "[I", .code yX4_clear cX4_clear 1 none, .methodLink RX6 54 yX6_readCells, .instanceMethod yX6_readCells, .selects RX6 yX6_readCells yX6_readCells, .code yX6_readCells cX6_readCells 2 (some .boolean), .methodLink RX6 58 yX6_readCores, .instanceMethod yX6_readCores, .selects RX6 yX6_readCores yX6_readCores, .fieldLink RX6 125 "LitmusHall$Program" "cores" "I", .methodLink RX6 102 yX6_take, .instanceMethod yX6_take, .selects RX6 yX6_take yX6_take, .methodLink RX6 96 yX6_fail, .instanceMethod yX6_fail, .selects RX6 yX6_fail yX6_fail, .code yX6_fail cX6_fail 2 (some .boolean), .code yX6_take cX6_take 2 (some .boolean), .code yX6_readCores cX6_readCores 3 (some .boolean), .code yX6_readText cX6_readText 3 (some .int), .fieldLink RX8 73 "LitmusHall$Reader" "place" "I", .fieldLink RX8 20 "LitmusHall" "faultPlace" "I"] ++ wsX80 ++ wsX60 ++ wsX40)
set_option maxRecDepth 20000 in
theorem gP_c_X8_read__c_X6_readText : GoodIn wsP_c_X8_read (wsV RX8 69 RX6 yX6_readText wsP_c_X6_readText) := goodIn_r _ [4, 5, 6, 7, 52, 8, 9, 10, 7, 11, 12, 13, 14, 15, 16, 17, 18, 19, 20, 21, 22, 23, 24, 25, 26, 27, 28, 29, 30, 31, 32, 33, 34, 35, 36, 37, 38, 39, 40, 41, 42, 43, 44, 45, 46, 47, 48, 49, 50, 51, 67, 68, 69, 70, 71, 72, 73, 74, 75, 76, 77, 78, 79, 80, 81, 82] (by decide +kernel) (by decide +kernel)
set_option maxHeartbeats 4000000 in
set_option maxRecDepth 100000 in
theorem c_X8_read (l : Launch) (D : va_G) (cI cB cZ : ClassId) (h0 : Nat) (r0 : Nat) (d0 : Nat) (a4 : Nat) (a5 : Nat) (d1 : Nat) (d2 : Nat) (a : Nat) (f : Nat → Int32) (v3 : Value) (v4 : Value) (v5 : Value) (v6 : Value) (v7 : Value) (v8 : Value) (v9 : Value) (v10 : Value) (v11 : Value) (t1 : Value) (t2 : Value) (t3 : Value) (t6 : Value) (t7 : Value) (t8 : Value) (t9 : Value) (t10 : Value) (t11 : Value) (u0 : Value) (u3 : Value)  : gMi l yX8_read wsP_c_X8_read ({ frames := 4, cells := 0, slots := 0, locals := 86 }) D cI cB cZ [] [.ref h0] [(h0, .inr (8, [.ref a, .int 0, .ref r0, v3, v4, v5, v6, v7, v8, v9, v10, v11])), (r0, .inr (6, [.ref d0, t1, t2, t3, .ref a4, .ref a5, t6, t7, t8, t9, t10, t11])), (d0, .inr (4, [u0, .ref d1, .ref d2, u3])), (a4, .inl (cI, 501, .inl (fun _ => 0))), (a5, .inl (cI, 501, .inl (fun _ => 0))), (d1, .inl (cI, 3, .inl (fun _ => 0))), (d2, .inl (cI, 4, .inl (fun _ => 0))), (a, .inl (cB, 4000, .inl f))] (fun r9 w9 => r9 = 1 ∧ w9 = [(h0, .inr (8, [.ref a, .int 0, .ref r0, .int 0, v4, v5, v6, v7, v8, v9, v10, v11])), (a, .inl (cB, 4000, .inl f)), (d1, .inl (cI, 3, .inl (upd (upd (upd (fun _ => 0) (Int32.toNatClampNeg 0) 0) (Int32.toNatClampNeg 1) 0) (Int32.toNatClampNeg 2) 0))), (d2, .inl (cI, 4, .inl (upd (upd (upd (upd (fun _ => 0) (Int32.toNatClampNeg 0) 0) (Int32.toNatClampNeg 1) 0) (Int32.toNatClampNeg 2) 0) (Int32.toNatClampNeg 3) 0))), (d0, .inr (4, [.int 1, .ref d1, .ref d2, u3])), (a4, .inl (cI, 501, .inl (upd (fun _ => 0) (Int32.toNatClampNeg 0) 21))), (r0, .inr (6, [.ref d0, .int 0, .int 1, .int (-1), .ref a4, .ref a5, t6, t7, .int 0, .int 0, t10, t11])), (a5, .inl (cI, 501, .inl (upd (fun _ => 0) (Int32.toNatClampNeg 0) 0)))]) := by
  refine gMi.of (cc := cX8_read) (maxL := 3) (ret := (some .int)) (by decide) rfl (Nat.le_of_ble_eq_true rfl) (fun p e s m below meth c A ls hx hb hr hlk hml hts hown hin hA hP hK hD hS hN hl => ?_)
  have hown : s.vm.findClass RX8 = some m.cls := hown
  have hl : lv_has ls 3 [(0, .ref h0)] := hl
  refine lv_aload_n hx hb dX8_read_0 rfl (lv_at hl 0 rfl) ?_
  refine va_get (D := D) (ci := 8) (v := .ref r0) (C := RX8) (T := TX8) (N := 12) hx hb hts (fun _ h => List.mem_cons_of_mem _ (List.mem_append_left _ (List.mem_append_left _ (List.mem_append_right _ h)))) hown hK hP 0 rfl rfl 2 (by decide) (hts (.fieldLink RX8 16 "LitmusHall" "reader" "LLitmusHall$Reader;") (by decide +kernel)) (fun _ h9 => h9) rfl dX8_read_1 ?_
  refine lv_aload_n hx hb dX8_read_4 rfl (lv_at hl 0 rfl) ?_
  refine va_get (D := D) (ci := 8) (v := .ref a) (C := RX8) (T := TX8) (N := 12) hx hb hts (fun _ h => List.mem_cons_of_mem _ (List.mem_append_left _ (List.mem_append_left _ (List.mem_append_right _ h)))) hown hK hP 0 rfl rfl 0 (by decide) (hts (.fieldLink RX8 9 "LitmusHall" "tape" "[B") (by decide +kernel)) (fun _ h9 => h9) rfl dX8_read_5 ?_
  refine lv_aload_n hx hb dX8_read_8 rfl (lv_at hl 0 rfl) ?_
  refine va_get (D := D) (ci := 8) (v := .int 0) (C := RX8) (T := TX8) (N := 12) hx hb hts (fun _ h => List.mem_cons_of_mem _ (List.mem_append_left _ (List.mem_append_left _ (List.mem_append_right _ h)))) hown hK hP 0 rfl rfl 1 (by decide) (hts (.fieldLink RX8 62 "LitmusHall" "tapeSize" "I") (by decide +kernel)) (fun _ h9 => h9) rfl dX8_read_9 ?_
  refine gx_goi (wc := [(r0, .inr (6, [.ref d0, t1, t2, t3, .ref a4, .ref a5, t6, t7, t8, t9, t10, t11])), (d0, .inr (4, [u0, .ref d1, .ref d2, u3])), (a4, .inl (cI, 501, .inl (fun _ => 0))), (a5, .inl (cI, 501, .inl (fun _ => 0))), (d1, .inl (cI, 3, .inl (fun _ => 0))), (d2, .inl (cI, 4, .inl (fun _ => 0))), (a, .inl (cB, 4000, .inl f))]) (wr := [(h0, .inr (8, [.ref a, .int 0, .ref r0, v3, v4, v5, v6, v7, v8, v9, v10, v11]))]) (va_runV (As := [.ref a, .int 0]) (rest := []) ⟨hx, hb, hml, hown, hts⟩ (c_X6_readText l D cI cB cZ r0 d0 a4 a5 d1 d2 a f (t1) (t2) (t3) (t6) (t7) (t8) (t9) (t10) (t11) (u0) (u3) _) (cwV 2 hts gP_c_X8_read__c_X6_readText rfl rfl rfl (by decide +kernel) ⟨Nat.le_of_ble_eq_true rfl, Nat.le_of_ble_eq_true rfl⟩) (gx_preV (ci := 6) (q0 := 0) hK gN.nil hP hD [1, 2, 3, 4, 5, 6, 7] rfl rfl rfl rfl) rfl rfl hl.1 rfl (lv_room (Nat.le_of_ble_eq_true rfl)) dX8_read_12 ⟨Nat.le_of_ble_eq_true rfl, Nat.le_of_ble_eq_true rfl⟩) hP hD hS hA [1, 2, 3, 4, 5, 6, 7] [0] rfl rfl rfl (by decide) (fun r1 w1 H locs hp hP hD hS => ?_)
  obtain ⟨rfl, rfl⟩ := hp
  have hP : va_P D vwCl [(h0, .inr (8, [.ref a, .int 0, .ref r0, v3, v4, v5, v6, v7, v8, v9, v10, v11])), (a, .inl (cB, 4000, .inl f)), (d1, .inl (cI, 3, .inl (upd (upd (upd (fun _ => 0) (Int32.toNatClampNeg 0) 0) (Int32.toNatClampNeg 1) 0) (Int32.toNatClampNeg 2) 0))), (d2, .inl (cI, 4, .inl (upd (upd (upd (upd (fun _ => 0) (Int32.toNatClampNeg 0) 0) (Int32.toNatClampNeg 1) 0) (Int32.toNatClampNeg 2) 0) (Int32.toNatClampNeg 3) 0))), (d0, .inr (4, [.int 1, .ref d1, .ref d2, u3])), (a4, .inl (cI, 501, .inl (upd (fun _ => 0) (Int32.toNatClampNeg 0) 21))), (r0, .inr (6, [.ref d0, .int 0, .int 1, .int (-1), .ref a4, .ref a5, t6, t7, .int 0, .int 0, t10, t11])), (a5, .inl (cI, 501, .inl (upd (fun _ => 0) (Int32.toNatClampNeg 0) 0)))] H := hP
  have hD : va_D A [(h0, .inr (8, [.ref a, .int 0, .ref r0, v3, v4, v5, v6, v7, v8, v9, v10, v11])), (a, .inl (cB, 4000, .inl f)), (d1, .inl (cI, 3, .inl (upd (upd (upd (fun _ => 0) (Int32.toNatClampNeg 0) 0) (Int32.toNatClampNeg 1) 0) (Int32.toNatClampNeg 2) 0))), (d2, .inl (cI, 4, .inl (upd (upd (upd (upd (fun _ => 0) (Int32.toNatClampNeg 0) 0) (Int32.toNatClampNeg 1) 0) (Int32.toNatClampNeg 2) 0) (Int32.toNatClampNeg 3) 0))), (d0, .inr (4, [.int 1, .ref d1, .ref d2, u3])), (a4, .inl (cI, 501, .inl (upd (fun _ => 0) (Int32.toNatClampNeg 0) 21))), (r0, .inr (6, [.ref d0, .int 0, .int 1, .int (-1), .ref a4, .ref a5, t6, t7, .int 0, .int 0, t10, t11])), (a5, .inl (cI, 501, .inl (upd (fun _ => 0) (Int32.toNatClampNeg 0) 0)))] := hD
  refine W.widen (k := 0) (n := 0) (Nat.le_of_ble_eq_true rfl) (Nat.le_of_ble_eq_true rfl) ?_
  refine lv_istore_n (lv' := [(1, .int 1), (0, .ref h0)]) hx hb dX8_read_15 rfl hl (by decide) rfl (fun ls hl => ?_)
  refine lv_aload_n hx hb dX8_read_16 rfl (lv_at hl 1 rfl) ?_
  refine lv_aload_n hx hb dX8_read_17 rfl (lv_at hl 1 rfl) ?_
  refine va_get (D := D) (ci := 8) (v := .ref r0) (C := RX8) (T := TX8) (N := 12) hx hb hts (fun _ h => List.mem_cons_of_mem _ (List.mem_append_left _ (List.mem_append_left _ (List.mem_append_right _ h)))) hown hK hP 0 rfl rfl 2 (by decide) (hts (.fieldLink RX8 16 "LitmusHall" "reader" "LLitmusHall$Reader;") (by decide +kernel)) (fun _ h9 => h9) rfl dX8_read_18 ?_
  refine va_get (D := D) (ci := 6) (v := .int 0) (C := RX6) (T := TX6) (N := 12) hx hb hts (fun _ h => List.mem_cons_of_mem _ (List.mem_append_left _ (List.mem_append_right _ h))) hown hK hP 6 rfl rfl 1 (by decide) (hts (.fieldLink RX8 73 "LitmusHall$Reader" "place" "I") (by decide +kernel)) (fun _ h9 => h9) rfl dX8_read_21 ?_
  refine va_put (D := D) (ci := 8) (v := .int 0) (ty := .int) (C := RX8) (T := TX8) (N := 12) hx hb hts (fun _ h => List.mem_cons_of_mem _ (List.mem_append_left _ (List.mem_append_left _ (List.mem_append_right _ h)))) tyX8 tyX8_ok nmX8 hown hK hP hD hS 0 rfl rfl 3 (by decide) (hts (.fieldLink RX8 20 "LitmusHall" "faultPlace" "I") (by decide +kernel)) (fun _ h9 => h9) rfl (by decide +kernel) rfl rfl (Nat.le_of_ble_eq_true rfl) dX8_read_24 (fun H locs hP hD hS => ?_)
  have hP : va_P D vwCl [(h0, .inr (8, [.ref a, .int 0, .ref r0, .int 0, v4, v5, v6, v7, v8, v9, v10, v11])), (a, .inl (cB, 4000, .inl f)), (d1, .inl (cI, 3, .inl (upd (upd (upd (fun _ => 0) (Int32.toNatClampNeg 0) 0) (Int32.toNatClampNeg 1) 0) (Int32.toNatClampNeg 2) 0))), (d2, .inl (cI, 4, .inl (upd (upd (upd (upd (fun _ => 0) (Int32.toNatClampNeg 0) 0) (Int32.toNatClampNeg 1) 0) (Int32.toNatClampNeg 2) 0) (Int32.toNatClampNeg 3) 0))), (d0, .inr (4, [.int 1, .ref d1, .ref d2, u3])), (a4, .inl (cI, 501, .inl (upd (fun _ => 0) (Int32.toNatClampNeg 0) 21))), (r0, .inr (6, [.ref d0, .int 0, .int 1, .int (-1), .ref a4, .ref a5, t6, t7, .int 0, .int 0, t10, t11])), (a5, .inl (cI, 501, .inl (upd (fun _ => 0) (Int32.toNatClampNeg 0) 0)))] H := hP
  have hD : va_D A [(h0, .inr (8, [.ref a, .int 0, .ref r0, .int 0, v4, v5, v6, v7, v8, v9, v10, v11])), (a, .inl (cB, 4000, .inl f)), (d1, .inl (cI, 3, .inl (upd (upd (upd (fun _ => 0) (Int32.toNatClampNeg 0) 0) (Int32.toNatClampNeg 1) 0) (Int32.toNatClampNeg 2) 0))), (d2, .inl (cI, 4, .inl (upd (upd (upd (upd (fun _ => 0) (Int32.toNatClampNeg 0) 0) (Int32.toNatClampNeg 1) 0) (Int32.toNatClampNeg 2) 0) (Int32.toNatClampNeg 3) 0))), (d0, .inr (4, [.int 1, .ref d1, .ref d2, u3])), (a4, .inl (cI, 501, .inl (upd (fun _ => 0) (Int32.toNatClampNeg 0) 21))), (r0, .inr (6, [.ref d0, .int 0, .int 1, .int (-1), .ref a4, .ref a5, t6, t7, .int 0, .int 0, t10, t11])), (a5, .inl (cI, 501, .inl (upd (fun _ => 0) (Int32.toNatClampNeg 0) 0)))] := hD
  refine lv_aload_n hx hb dX8_read_27 rfl (lv_at hl 1 rfl) ?_
  refine lv_iconst (v := 0) hx hb dX8_read_28 (by decide) ?_
  refine va_put (D := D) (ci := 8) (v := .int 0) (ty := .int) (C := RX8) (T := TX8) (N := 12) hx hb hts (fun _ h => List.mem_cons_of_mem _ (List.mem_append_left _ (List.mem_append_left _ (List.mem_append_right _ h)))) tyX8 tyX8_ok nmX8 hown hK hP hD hS 0 rfl rfl 1 (by decide) (hts (.fieldLink RX8 62 "LitmusHall" "tapeSize" "I") (by decide +kernel)) (fun _ h9 => h9) rfl (by decide +kernel) rfl rfl (Nat.le_of_ble_eq_true rfl) dX8_read_29 (fun H locs hP hD hS => ?_)
  have hP : va_P D vwCl [(h0, .inr (8, [.ref a, .int 0, .ref r0, .int 0, v4, v5, v6, v7, v8, v9, v10, v11])), (a, .inl (cB, 4000, .inl f)), (d1, .inl (cI, 3, .inl (upd (upd (upd (fun _ => 0) (Int32.toNatClampNeg 0) 0) (Int32.toNatClampNeg 1) 0) (Int32.toNatClampNeg 2) 0))), (d2, .inl (cI, 4, .inl (upd (upd (upd (upd (fun _ => 0) (Int32.toNatClampNeg 0) 0) (Int32.toNatClampNeg 1) 0) (Int32.toNatClampNeg 2) 0) (Int32.toNatClampNeg 3) 0))), (d0, .inr (4, [.int 1, .ref d1, .ref d2, u3])), (a4, .inl (cI, 501, .inl (upd (fun _ => 0) (Int32.toNatClampNeg 0) 21))), (r0, .inr (6, [.ref d0, .int 0, .int 1, .int (-1), .ref a4, .ref a5, t6, t7, .int 0, .int 0, t10, t11])), (a5, .inl (cI, 501, .inl (upd (fun _ => 0) (Int32.toNatClampNeg 0) 0)))] H := hP
  have hD : va_D A [(h0, .inr (8, [.ref a, .int 0, .ref r0, .int 0, v4, v5, v6, v7, v8, v9, v10, v11])), (a, .inl (cB, 4000, .inl f)), (d1, .inl (cI, 3, .inl (upd (upd (upd (fun _ => 0) (Int32.toNatClampNeg 0) 0) (Int32.toNatClampNeg 1) 0) (Int32.toNatClampNeg 2) 0))), (d2, .inl (cI, 4, .inl (upd (upd (upd (upd (fun _ => 0) (Int32.toNatClampNeg 0) 0) (Int32.toNatClampNeg 1) 0) (Int32.toNatClampNeg 2) 0) (Int32.toNatClampNeg 3) 0))), (d0, .inr (4, [.int 1, .ref d1, .ref d2, u3])), (a4, .inl (cI, 501, .inl (upd (fun _ => 0) (Int32.toNatClampNeg 0) 21))), (r0, .inr (6, [.ref d0, .int 0, .int 1, .int (-1), .ref a4, .ref a5, t6, t7, .int 0, .int 0, t10, t11])), (a5, .inl (cI, 501, .inl (upd (fun _ => 0) (Int32.toNatClampNeg 0) 0)))] := hD
  refine lv_iload_n hx hb dX8_read_32 rfl (lv_at hl 0 rfl) ?_
  refine lv_if_ne (tgt := 69) hx hb dX8_read_33 (by decide) (fun _ => ?_) (fun c9 => absurd c9 (by decide))
  refine lv_iload_n hx hb dX8_read_69 rfl (lv_at hl 0 rfl) ?_
  exact gx_iret hx hb hr hlk hK hP hD hS (Nat.le_of_ble_eq_true rfl) (Nat.le_of_ble_eq_true rfl) dX8_read_70 ⟨rfl, rfl⟩
