def wsP_c_X8_feedWord_0 : List Cond := .code yX8_feedWord cX8_feedWord 3 none :: ([.fieldLink RX8 62 "LitmusHall" "tapeSize" "I", .fieldLink RX8 9 "LitmusHall" "tape" "[B"] ++ wsX80)
set_option maxHeartbeats 4000000 in
set_option maxRecDepth 100000 in
theorem c_X8_feedWord_0 (l : Launch) (D : va_G) (cI cB cZ : ClassId) (h0 : Nat) (a0 : Nat) (f : Nat → Int32) (v2 : Value) (v3 : Value) (v4 : Value) (v5 : Value) (v6 : Value) (v7 : Value) (v8 : Value) (v9 : Value) (v10 : Value) (v11 : Value) (w : Int32)  : gMv l yX8_feedWord wsP_c_X8_feedWord_0 ({ frames := 0, cells := 0, slots := 0, locals := 0 }) D cI cB cZ [] [.ref h0, .int w] [(h0, .inr (8, [.ref a0, .int 0, v2, v3, v4, v5, v6, v7, v8, v9, v10, v11])), (a0, .inl (cB, 4000, .inl f))] (fun w9 => w9 = [(h0, .inr (8, [.ref a0, .int 4, v2, v3, v4, v5, v6, v7, v8, v9, v10, v11])), (a0, .inl (cB, 4000, .inl (upd (upd (upd (upd f (Int32.toNatClampNeg 0) (vp_nar .byte ((w >>> ((24 : Int32) &&& 31)).toInt8.toInt32))) (Int32.toNatClampNeg 1) (vp_nar .byte ((w >>> ((16 : Int32) &&& 31)).toInt8.toInt32))) (Int32.toNatClampNeg 2) (vp_nar .byte ((w >>> ((8 : Int32) &&& 31)).toInt8.toInt32))) (Int32.toNatClampNeg 3) (vp_nar .byte ((w >>> ((0 : Int32) &&& 31)).toInt8.toInt32)))))]) := by
  refine gMv.of (cc := cX8_feedWord) (maxL := 3) (ret := none) (by decide) rfl (Nat.le_of_ble_eq_true rfl) (fun p e s m below meth c A ls hx hb hr hlk hml hts hown hin hA hP hK hD hS hN hl => ?_)
  have hown : s.vm.findClass RX8 = some m.cls := hown
  have hl : lv_has ls 3 [(0, .ref h0), (1, .int w)] := hl
  refine lv_bipush (v := 24) hx hb dX8_feedWord_0 (by decide) ?_
  refine lv_istore_n (lv' := [(2, .int 24), (0, .ref h0), (1, .int w)]) hx hb dX8_feedWord_2 rfl hl (by decide) rfl (fun ls hl => ?_)
  refine lv_iload_n hx hb dX8_feedWord_3 rfl (lv_at hl 0 rfl) ?_
  refine lv_if_lt (tgt := 46) hx hb dX8_feedWord_4 (by decide) (fun c9 => absurd c9 (by decide)) (fun _ => ?_)
  refine lv_aload_n hx hb dX8_feedWord_7 rfl (lv_at hl 1 rfl) ?_
  refine va_get (D := D) (ci := 8) (v := .int 0) (C := RX8) (T := TX8) (N := 12) hx hb hts (fun _ h => List.mem_cons_of_mem _ (List.mem_append_right _ h)) hown hK hP 0 rfl rfl 1 (by decide) (hts (.fieldLink RX8 62 "LitmusHall" "tapeSize" "I") (by decide +kernel)) (fun _ h9 => h9) rfl dX8_feedWord_8 ?_
  refine lv_sipush (v := 4000) hx hb dX8_feedWord_11 (by decide) ?_
  refine lv_icmp_ge (tgt := 46) hx hb dX8_feedWord_14 (by decide) (fun c9 => absurd c9 (by decide)) (fun _ => ?_)
  refine lv_aload_n hx hb dX8_feedWord_17 rfl (lv_at hl 1 rfl) ?_
  refine va_get (D := D) (ci := 8) (v := .ref a0) (C := RX8) (T := TX8) (N := 12) hx hb hts (fun _ h => List.mem_cons_of_mem _ (List.mem_append_right _ h)) hown hK hP 0 rfl rfl 0 (by decide) (hts (.fieldLink RX8 9 "LitmusHall" "tape" "[B") (by decide +kernel)) (fun _ h9 => h9) rfl dX8_feedWord_18 ?_
  refine lv_aload_n hx hb dX8_feedWord_21 rfl (lv_at hl 1 rfl) ?_
  refine va_get (D := D) (ci := 8) (v := .int 0) (C := RX8) (T := TX8) (N := 12) hx hb hts (fun _ h => List.mem_cons_of_mem _ (List.mem_append_right _ h)) hown hK hP 0 rfl rfl 1 (by decide) (hts (.fieldLink RX8 62 "LitmusHall" "tapeSize" "I") (by decide +kernel)) (fun _ h9 => h9) rfl dX8_feedWord_22 ?_
  refine lv_iload_n hx hb dX8_feedWord_25 rfl (lv_at hl 2 rfl) ?_
  refine lv_iload_n hx hb dX8_feedWord_26 rfl (lv_at hl 0 rfl) ?_
  refine lv_ishr hx hb dX8_feedWord_27 ?_
  refine lv_i2b (v := (w >>> ((24 : Int32) &&& 31)).toInt8.toInt32) hx hb dX8_feedWord_28 rfl ?_
  refine va_bast hx hb hK hP hD hS 1 1 rfl rfl (by unfold vp_in; decide +kernel) dX8_feedWord_29 (fun H locs hP hD hS => ?_)
  have hP : va_P D vwCl [(h0, .inr (8, [.ref a0, .int 0, v2, v3, v4, v5, v6, v7, v8, v9, v10, v11])), (a0, .inl (cB, 4000, .inl (upd f (Int32.toNatClampNeg 0) (vp_nar .byte ((w >>> ((24 : Int32) &&& 31)).toInt8.toInt32)))))] H := hP
  have hD : va_D A [(h0, .inr (8, [.ref a0, .int 0, v2, v3, v4, v5, v6, v7, v8, v9, v10, v11])), (a0, .inl (cB, 4000, .inl (upd f (Int32.toNatClampNeg 0) (vp_nar .byte ((w >>> ((24 : Int32) &&& 31)).toInt8.toInt32)))))] := hD
  refine lv_aload_n hx hb dX8_feedWord_30 rfl (lv_at hl 1 rfl) ?_
  refine lv_dup hx hb dX8_feedWord_31 rfl ?_
  refine va_get (D := D) (ci := 8) (v := .int 0) (C := RX8) (T := TX8) (N := 12) hx hb hts (fun _ h => List.mem_cons_of_mem _ (List.mem_append_right _ h)) hown hK hP 0 rfl rfl 1 (by decide) (hts (.fieldLink RX8 62 "LitmusHall" "tapeSize" "I") (by decide +kernel)) (fun _ h9 => h9) rfl dX8_feedWord_32 ?_
  refine lv_iconst (v := 1) hx hb dX8_feedWord_35 (by decide) ?_
  refine lv_iadd hx hb dX8_feedWord_36 ?_
  refine gx_top (y := 1) (by decide +kernel) ?_
  refine va_put (D := D) (ci := 8) (v := .int 1) (ty := .int) (C := RX8) (T := TX8) (N := 12) hx hb hts (fun _ h => List.mem_cons_of_mem _ (List.mem_append_right _ h)) tyX8 tyX8_ok nmX8 hown hK hP hD hS 0 rfl rfl 1 (by decide) (hts (.fieldLink RX8 62 "LitmusHall" "tapeSize" "I") (by decide +kernel)) (fun _ h9 => h9) rfl (by decide +kernel) rfl rfl (Nat.le_of_ble_eq_true rfl) dX8_feedWord_37 (fun H locs hP hD hS => ?_)
  have hP : va_P D vwCl [(h0, .inr (8, [.ref a0, .int 1, v2, v3, v4, v5, v6, v7, v8, v9, v10, v11])), (a0, .inl (cB, 4000, .inl (upd f (Int32.toNatClampNeg 0) (vp_nar .byte ((w >>> ((24 : Int32) &&& 31)).toInt8.toInt32)))))] H := hP
  have hD : va_D A [(h0, .inr (8, [.ref a0, .int 1, v2, v3, v4, v5, v6, v7, v8, v9, v10, v11])), (a0, .inl (cB, 4000, .inl (upd f (Int32.toNatClampNeg 0) (vp_nar .byte ((w >>> ((24 : Int32) &&& 31)).toInt8.toInt32)))))] := hD
  refine lv_iinc (v := 16) (lv' := [(2, .int 16), (0, .ref h0), (1, .int w)]) hx hb dX8_feedWord_40 hl (k := 0) rfl (by decide +kernel) (by decide) rfl (fun ls hl => ?_)
  refine lv_goto (tgt := 3) hx hb dX8_feedWord_43 (by decide) ?_
  refine lv_iload_n hx hb dX8_feedWord_3 rfl (lv_at hl 0 rfl) ?_
  refine lv_if_lt (tgt := 46) hx hb dX8_feedWord_4 (by decide) (fun c9 => absurd c9 (by decide)) (fun _ => ?_)
  refine lv_aload_n hx hb dX8_feedWord_7 rfl (lv_at hl 1 rfl) ?_
  refine va_get (D := D) (ci := 8) (v := .int 1) (C := RX8) (T := TX8) (N := 12) hx hb hts (fun _ h => List.mem_cons_of_mem _ (List.mem_append_right _ h)) hown hK hP 0 rfl rfl 1 (by decide) (hts (.fieldLink RX8 62 "LitmusHall" "tapeSize" "I") (by decide +kernel)) (fun _ h9 => h9) rfl dX8_feedWord_8 ?_
  refine lv_sipush (v := 4000) hx hb dX8_feedWord_11 (by decide) ?_
  refine lv_icmp_ge (tgt := 46) hx hb dX8_feedWord_14 (by decide) (fun c9 => absurd c9 (by decide)) (fun _ => ?_)
  refine lv_aload_n hx hb dX8_feedWord_17 rfl (lv_at hl 1 rfl) ?_
  refine va_get (D := D) (ci := 8) (v := .ref a0) (C := RX8) (T := TX8) (N := 12) hx hb hts (fun _ h => List.mem_cons_of_mem _ (List.mem_append_right _ h)) hown hK hP 0 rfl rfl 0 (by decide) (hts (.fieldLink RX8 9 "LitmusHall" "tape" "[B") (by decide +kernel)) (fun _ h9 => h9) rfl dX8_feedWord_18 ?_
  refine lv_aload_n hx hb dX8_feedWord_21 rfl (lv_at hl 1 rfl) ?_
  refine va_get (D := D) (ci := 8) (v := .int 1) (C := RX8) (T := TX8) (N := 12) hx hb hts (fun _ h => List.mem_cons_of_mem _ (List.mem_append_right _ h)) hown hK hP 0 rfl rfl 1 (by decide) (hts (.fieldLink RX8 62 "LitmusHall" "tapeSize" "I") (by decide +kernel)) (fun _ h9 => h9) rfl dX8_feedWord_22 ?_
  refine lv_iload_n hx hb dX8_feedWord_25 rfl (lv_at hl 2 rfl) ?_
  refine lv_iload_n hx hb dX8_feedWord_26 rfl (lv_at hl 0 rfl) ?_
  refine lv_ishr hx hb dX8_feedWord_27 ?_
  refine lv_i2b (v := (w >>> ((16 : Int32) &&& 31)).toInt8.toInt32) hx hb dX8_feedWord_28 rfl ?_
  refine va_bast hx hb hK hP hD hS 1 1 rfl rfl (by unfold vp_in; decide +kernel) dX8_feedWord_29 (fun H locs hP hD hS => ?_)
  have hP : va_P D vwCl [(h0, .inr (8, [.ref a0, .int 1, v2, v3, v4, v5, v6, v7, v8, v9, v10, v11])), (a0, .inl (cB, 4000, .inl (upd (upd f (Int32.toNatClampNeg 0) (vp_nar .byte ((w >>> ((24 : Int32) &&& 31)).toInt8.toInt32))) (Int32.toNatClampNeg 1) (vp_nar .byte ((w >>> ((16 : Int32) &&& 31)).toInt8.toInt32)))))] H := hP
  have hD : va_D A [(h0, .inr (8, [.ref a0, .int 1, v2, v3, v4, v5, v6, v7, v8, v9, v10, v11])), (a0, .inl (cB, 4000, .inl (upd (upd f (Int32.toNatClampNeg 0) (vp_nar .byte ((w >>> ((24 : Int32) &&& 31)).toInt8.toInt32))) (Int32.toNatClampNeg 1) (vp_nar .byte ((w >>> ((16 : Int32) &&& 31)).toInt8.toInt32)))))] := hD
  refine lv_aload_n hx hb dX8_feedWord_30 rfl (lv_at hl 1 rfl) ?_
  refine lv_dup hx hb dX8_feedWord_31 rfl ?_
  refine va_get (D := D) (ci := 8) (v := .int 1) (C := RX8) (T := TX8) (N := 12) hx hb hts (fun _ h => List.mem_cons_of_mem _ (List.mem_append_right _ h)) hown hK hP 0 rfl rfl 1 (by decide) (hts (.fieldLink RX8 62 "LitmusHall" "tapeSize" "I") (by decide +kernel)) (fun _ h9 => h9) rfl dX8_feedWord_32 ?_
  refine lv_iconst (v := 1) hx hb dX8_feedWord_35 (by decide) ?_
  refine lv_iadd hx hb dX8_feedWord_36 ?_
  refine gx_top (y := 2) (by decide +kernel) ?_
  refine va_put (D := D) (ci := 8) (v := .int 2) (ty := .int) (C := RX8) (T := TX8) (N := 12) hx hb hts (fun _ h => List.mem_cons_of_mem _ (List.mem_append_right _ h)) tyX8 tyX8_ok nmX8 hown hK hP hD hS 0 rfl rfl 1 (by decide) (hts (.fieldLink RX8 62 "LitmusHall" "tapeSize" "I") (by decide +kernel)) (fun _ h9 => h9) rfl (by decide +kernel) rfl rfl (Nat.le_of_ble_eq_true rfl) dX8_feedWord_37 (fun H locs hP hD hS => ?_)
  have hP : va_P D vwCl [(h0, .inr (8, [.ref a0, .int 2, v2, v3, v4, v5, v6, v7, v8, v9, v10, v11])), (a0, .inl (cB, 4000, .inl (upd (upd f (Int32.toNatClampNeg 0) (vp_nar .byte ((w >>> ((24 : Int32) &&& 31)).toInt8.toInt32))) (Int32.toNatClampNeg 1) (vp_nar .byte ((w >>> ((16 : Int32) &&& 31)).toInt8.toInt32)))))] H := hP
  have hD : va_D A [(h0, .inr (8, [.ref a0, .int 2, v2, v3, v4, v5, v6, v7, v8, v9, v10, v11])), (a0, .inl (cB, 4000, .inl (upd (upd f (Int32.toNatClampNeg 0) (vp_nar .byte ((w >>> ((24 : Int32) &&& 31)).toInt8.toInt32))) (Int32.toNatClampNeg 1) (vp_nar .byte ((w >>> ((16 : Int32) &&& 31)).toInt8.toInt32)))))] := hD
  refine lv_iinc (v := 8) (lv' := [(2, .int 8), (0, .ref h0), (1, .int w)]) hx hb dX8_feedWord_40 hl (k := 0) rfl (by decide +kernel) (by decide) rfl (fun ls hl => ?_)
  refine lv_goto (tgt := 3) hx hb dX8_feedWord_43 (by decide) ?_
  refine lv_iload_n hx hb dX8_feedWord_3 rfl (lv_at hl 0 rfl) ?_
  refine lv_if_lt (tgt := 46) hx hb dX8_feedWord_4 (by decide) (fun c9 => absurd c9 (by decide)) (fun _ => ?_)
  refine lv_aload_n hx hb dX8_feedWord_7 rfl (lv_at hl 1 rfl) ?_
  refine va_get (D := D) (ci := 8) (v := .int 2) (C := RX8) (T := TX8) (N := 12) hx hb hts (fun _ h => List.mem_cons_of_mem _ (List.mem_append_right _ h)) hown hK hP 0 rfl rfl 1 (by decide) (hts (.fieldLink RX8 62 "LitmusHall" "tapeSize" "I") (by decide +kernel)) (fun _ h9 => h9) rfl dX8_feedWord_8 ?_
  refine lv_sipush (v := 4000) hx hb dX8_feedWord_11 (by decide) ?_
  refine lv_icmp_ge (tgt := 46) hx hb dX8_feedWord_14 (by decide) (fun c9 => absurd c9 (by decide)) (fun _ => ?_)
  refine lv_aload_n hx hb dX8_feedWord_17 rfl (lv_at hl 1 rfl) ?_
  refine va_get (D := D) (ci := 8) (v := .ref a0) (C := RX8) (T := TX8) (N := 12) hx hb hts (fun _ h => List.mem_cons_of_mem _ (List.mem_append_right _ h)) hown hK hP 0 rfl rfl 0 (by decide) (hts (.fieldLink RX8 9 "LitmusHall" "tape" "[B") (by decide +kernel)) (fun _ h9 => h9) rfl dX8_feedWord_18 ?_
  refine lv_aload_n hx hb dX8_feedWord_21 rfl (lv_at hl 1 rfl) ?_
  refine va_get (D := D) (ci := 8) (v := .int 2) (C := RX8) (T := TX8) (N := 12) hx hb hts (fun _ h => List.mem_cons_of_mem _ (List.mem_append_right _ h)) hown hK hP 0 rfl rfl 1 (by decide) (hts (.fieldLink RX8 62 "LitmusHall" "tapeSize" "I") (by decide +kernel)) (fun _ h9 => h9) rfl dX8_feedWord_22 ?_
  refine lv_iload_n hx hb dX8_feedWord_25 rfl (lv_at hl 2 rfl) ?_
  refine lv_iload_n hx hb dX8_feedWord_26 rfl (lv_at hl 0 rfl) ?_
  refine lv_ishr hx hb dX8_feedWord_27 ?_
  refine lv_i2b (v := (w >>> ((8 : Int32) &&& 31)).toInt8.toInt32) hx hb dX8_feedWord_28 rfl ?_
  refine va_bast hx hb hK hP hD hS 1 1 rfl rfl (by unfold vp_in; decide +kernel) dX8_feedWord_29 (fun H locs hP hD hS => ?_)
  have hP : va_P D vwCl [(h0, .inr (8, [.ref a0, .int 2, v2, v3, v4, v5, v6, v7, v8, v9, v10, v11])), (a0, .inl (cB, 4000, .inl (upd (upd (upd f (Int32.toNatClampNeg 0) (vp_nar .byte ((w >>> ((24 : Int32) &&& 31)).toInt8.toInt32))) (Int32.toNatClampNeg 1) (vp_nar .byte ((w >>> ((16 : Int32) &&& 31)).toInt8.toInt32))) (Int32.toNatClampNeg 2) (vp_nar .byte ((w >>> ((8 : Int32) &&& 31)).toInt8.toInt32)))))] H := hP
  have hD : va_D A [(h0, .inr (8, [.ref a0, .int 2, v2, v3, v4, v5, v6, v7, v8, v9, v10, v11])), (a0, .inl (cB, 4000, .inl (upd (upd (upd f (Int32.toNatClampNeg 0) (vp_nar .byte ((w >>> ((24 : Int32) &&& 31)).toInt8.toInt32))) (Int32.toNatClampNeg 1) (vp_nar .byte ((w >>> ((16 : Int32) &&& 31)).toInt8.toInt32))) (Int32.toNatClampNeg 2) (vp_nar .byte ((w >>> ((8 : Int32) &&& 31)).toInt8.toInt32)))))] := hD
  refine lv_aload_n hx hb dX8_feedWord_30 rfl (lv_at hl 1 rfl) ?_
  refine lv_dup hx hb dX8_feedWord_31 rfl ?_
  refine va_get (D := D) (ci := 8) (v := .int 2) (C := RX8) (T := TX8) (N := 12) hx hb hts (fun _ h => List.mem_cons_of_mem _ (List.mem_append_right _ h)) hown hK hP 0 rfl rfl 1 (by decide) (hts (.fieldLink RX8 62 "LitmusHall" "tapeSize" "I") (by decide +kernel)) (fun _ h9 => h9) rfl dX8_feedWord_32 ?_
  refine lv_iconst (v := 1) hx hb dX8_feedWord_35 (by decide) ?_
  refine lv_iadd hx hb dX8_feedWord_36 ?_
  refine gx_top (y := 3) (by decide +kernel) ?_
  refine va_put (D := D) (ci := 8) (v := .int 3) (ty := .int) (C := RX8) (T := TX8) (N := 12) hx hb hts (fun _ h => List.mem_cons_of_mem _ (List.mem_append_right _ h)) tyX8 tyX8_ok nmX8 hown hK hP hD hS 0 rfl rfl 1 (by decide) (hts (.fieldLink RX8 62 "LitmusHall" "tapeSize" "I") (by decide +kernel)) (fun _ h9 => h9) rfl (by decide +kernel) rfl rfl (Nat.le_of_ble_eq_true rfl) dX8_feedWord_37 (fun H locs hP hD hS => ?_)
  have hP : va_P D vwCl [(h0, .inr (8, [.ref a0, .int 3, v2, v3, v4, v5, v6, v7, v8, v9, v10, v11])), (a0, .inl (cB, 4000, .inl (upd (upd (upd f (Int32.toNatClampNeg 0) (vp_nar .byte ((w >>> ((24 : Int32) &&& 31)).toInt8.toInt32))) (Int32.toNatClampNeg 1) (vp_nar .byte ((w >>> ((16 : Int32) &&& 31)).toInt8.toInt32))) (Int32.toNatClampNeg 2) (vp_nar .byte ((w >>> ((8 : Int32) &&& 31)).toInt8.toInt32)))))] H := hP
  have hD : va_D A [(h0, .inr (8, [.ref a0, .int 3, v2, v3, v4, v5, v6, v7, v8, v9, v10, v11])), (a0, .inl (cB, 4000, .inl (upd (upd (upd f (Int32.toNatClampNeg 0) (vp_nar .byte ((w >>> ((24 : Int32) &&& 31)).toInt8.toInt32))) (Int32.toNatClampNeg 1) (vp_nar .byte ((w >>> ((16 : Int32) &&& 31)).toInt8.toInt32))) (Int32.toNatClampNeg 2) (vp_nar .byte ((w >>> ((8 : Int32) &&& 31)).toInt8.toInt32)))))] := hD
  refine lv_iinc (v := 0) (lv' := [(2, .int 0), (0, .ref h0), (1, .int w)]) hx hb dX8_feedWord_40 hl (k := 0) rfl (by decide +kernel) (by decide) rfl (fun ls hl => ?_)
  refine lv_goto (tgt := 3) hx hb dX8_feedWord_43 (by decide) ?_
  refine lv_iload_n hx hb dX8_feedWord_3 rfl (lv_at hl 0 rfl) ?_
  refine lv_if_lt (tgt := 46) hx hb dX8_feedWord_4 (by decide) (fun c9 => absurd c9 (by decide)) (fun _ => ?_)
  refine lv_aload_n hx hb dX8_feedWord_7 rfl (lv_at hl 1 rfl) ?_
  refine va_get (D := D) (ci := 8) (v := .int 3) (C := RX8) (T := TX8) (N := 12) hx hb hts (fun _ h => List.mem_cons_of_mem _ (List.mem_append_right _ h)) hown hK hP 0 rfl rfl 1 (by decide) (hts (.fieldLink RX8 62 "LitmusHall" "tapeSize" "I") (by decide +kernel)) (fun _ h9 => h9) rfl dX8_feedWord_8 ?_
  refine lv_sipush (v := 4000) hx hb dX8_feedWord_11 (by decide) ?_
  refine lv_icmp_ge (tgt := 46) hx hb dX8_feedWord_14 (by decide) (fun c9 => absurd c9 (by decide)) (fun _ => ?_)
  refine lv_aload_n hx hb dX8_feedWord_17 rfl (lv_at hl 1 rfl) ?_
  refine va_get (D := D) (ci := 8) (v := .ref a0) (C := RX8) (T := TX8) (N := 12) hx hb hts (fun _ h => List.mem_cons_of_mem _ (List.mem_append_right _ h)) hown hK hP 0 rfl rfl 0 (by decide) (hts (.fieldLink RX8 9 "LitmusHall" "tape" "[B") (by decide +kernel)) (fun _ h9 => h9) rfl dX8_feedWord_18 ?_
  refine lv_aload_n hx hb dX8_feedWord_21 rfl (lv_at hl 1 rfl) ?_
  refine va_get (D := D) (ci := 8) (v := .int 3) (C := RX8) (T := TX8) (N := 12) hx hb hts (fun _ h => List.mem_cons_of_mem _ (List.mem_append_right _ h)) hown hK hP 0 rfl rfl 1 (by decide) (hts (.fieldLink RX8 62 "LitmusHall" "tapeSize" "I") (by decide +kernel)) (fun _ h9 => h9) rfl dX8_feedWord_22 ?_
  refine lv_iload_n hx hb dX8_feedWord_25 rfl (lv_at hl 2 rfl) ?_
  refine lv_iload_n hx hb dX8_feedWord_26 rfl (lv_at hl 0 rfl) ?_
  refine lv_ishr hx hb dX8_feedWord_27 ?_
  refine lv_i2b (v := (w >>> ((0 : Int32) &&& 31)).toInt8.toInt32) hx hb dX8_feedWord_28 rfl ?_
  refine va_bast hx hb hK hP hD hS 1 1 rfl rfl (by unfold vp_in; decide +kernel) dX8_feedWord_29 (fun H locs hP hD hS => ?_)
  have hP : va_P D vwCl [(h0, .inr (8, [.ref a0, .int 3, v2, v3, v4, v5, v6, v7, v8, v9, v10, v11])), (a0, .inl (cB, 4000, .inl (upd (upd (upd (upd f (Int32.toNatClampNeg 0) (vp_nar .byte ((w >>> ((24 : Int32) &&& 31)).toInt8.toInt32))) (Int32.toNatClampNeg 1) (vp_nar .byte ((w >>> ((16 : Int32) &&& 31)).toInt8.toInt32))) (Int32.toNatClampNeg 2) (vp_nar .byte ((w >>> ((8 : Int32) &&& 31)).toInt8.toInt32))) (Int32.toNatClampNeg 3) (vp_nar .byte ((w >>> ((0 : Int32) &&& 31)).toInt8.toInt32)))))] H := hP
  have hD : va_D A [(h0, .inr (8, [.ref a0, .int 3, v2, v3, v4, v5, v6, v7, v8, v9, v10, v11])), (a0, .inl (cB, 4000, .inl (upd (upd (upd (upd f (Int32.toNatClampNeg 0) (vp_nar .byte ((w >>> ((24 : Int32) &&& 31)).toInt8.toInt32))) (Int32.toNatClampNeg 1) (vp_nar .byte ((w >>> ((16 : Int32) &&& 31)).toInt8.toInt32))) (Int32.toNatClampNeg 2) (vp_nar .byte ((w >>> ((8 : Int32) &&& 31)).toInt8.toInt32))) (Int32.toNatClampNeg 3) (vp_nar .byte ((w >>> ((0 : Int32) &&& 31)).toInt8.toInt32)))))] := hD
  refine lv_aload_n hx hb dX8_feedWord_30 rfl (lv_at hl 1 rfl) ?_
  refine lv_dup hx hb dX8_feedWord_31 rfl ?_
  refine va_get (D := D) (ci := 8) (v := .int 3) (C := RX8) (T := TX8) (N := 12) hx hb hts (fun _ h => List.mem_cons_of_mem _ (List.mem_append_right _ h)) hown hK hP 0 rfl rfl 1 (by decide) (hts (.fieldLink RX8 62 "LitmusHall" "tapeSize" "I") (by decide +kernel)) (fun _ h9 => h9) rfl dX8_feedWord_32 ?_
  refine lv_iconst (v := 1) hx hb dX8_feedWord_35 (by decide) ?_
  refine lv_iadd hx hb dX8_feedWord_36 ?_
  refine gx_top (y := 4) (by decide +kernel) ?_
  refine va_put (D := D) (ci := 8) (v := .int 4) (ty := .int) (C := RX8) (T := TX8) (N := 12) hx hb hts (fun _ h => List.mem_cons_of_mem _ (List.mem_append_right _ h)) tyX8 tyX8_ok nmX8 hown hK hP hD hS 0 rfl rfl 1 (by decide) (hts (.fieldLink RX8 62 "LitmusHall" "tapeSize" "I") (by decide +kernel)) (fun _ h9 => h9) rfl (by decide +kernel) rfl rfl (Nat.le_of_ble_eq_true rfl) dX8_feedWord_37 (fun H locs hP hD hS => ?_)
  have hP : va_P D vwCl [(h0, .inr (8, [.ref a0, .int 4, v2, v3, v4, v5, v6, v7, v8, v9, v10, v11])), (a0, .inl (cB, 4000, .inl (upd (upd (upd (upd f (Int32.toNatClampNeg 0) (vp_nar .byte ((w >>> ((24 : Int32) &&& 31)).toInt8.toInt32))) (Int32.toNatClampNeg 1) (vp_nar .byte ((w >>> ((16 : Int32) &&& 31)).toInt8.toInt32))) (Int32.toNatClampNeg 2) (vp_nar .byte ((w >>> ((8 : Int32) &&& 31)).toInt8.toInt32))) (Int32.toNatClampNeg 3) (vp_nar .byte ((w >>> ((0 : Int32) &&& 31)).toInt8.toInt32)))))] H := hP
  have hD : va_D A [(h0, .inr (8, [.ref a0, .int 4, v2, v3, v4, v5, v6, v7, v8, v9, v10, v11])), (a0, .inl (cB, 4000, .inl (upd (upd (upd (upd f (Int32.toNatClampNeg 0) (vp_nar .byte ((w >>> ((24 : Int32) &&& 31)).toInt8.toInt32))) (Int32.toNatClampNeg 1) (vp_nar .byte ((w >>> ((16 : Int32) &&& 31)).toInt8.toInt32))) (Int32.toNatClampNeg 2) (vp_nar .byte ((w >>> ((8 : Int32) &&& 31)).toInt8.toInt32))) (Int32.toNatClampNeg 3) (vp_nar .byte ((w >>> ((0 : Int32) &&& 31)).toInt8.toInt32)))))] := hD
  refine lv_iinc (v := (-8)) (lv' := [(2, .int (-8)), (0, .ref h0), (1, .int w)]) hx hb dX8_feedWord_40 hl (k := 0) rfl (by decide +kernel) (by decide) rfl (fun ls hl => ?_)
  refine lv_goto (tgt := 3) hx hb dX8_feedWord_43 (by decide) ?_
  refine lv_iload_n hx hb dX8_feedWord_3 rfl (lv_at hl 0 rfl) ?_
  refine lv_if_lt (tgt := 46) hx hb dX8_feedWord_4 (by decide) (fun _ => ?_) (fun c9 => absurd (by decide) c9)
  exact gx_vret hx hb hr hlk hK hP hD hS (Nat.le_of_ble_eq_true rfl) (Nat.le_of_ble_eq_true rfl) dX8_feedWord_46 rfl
def wsP_c_X8_feedWord_4 : List Cond := .code yX8_feedWord cX8_feedWord 3 none :: ([.fieldLink RX8 62 "LitmusHall" "tapeSize" "I", .fieldLink RX8 9 "LitmusHall" "tape" "[B"] ++ wsX80)
set_option maxHeartbeats 4000000 in
set_option maxRecDepth 100000 in
theorem c_X8_feedWord_4 (l : Launch) (D : va_G) (cI cB cZ : ClassId) (h0 : Nat) (a0 : Nat) (f : Nat → Int32) (v2 : Value) (v3 : Value) (v4 : Value) (v5 : Value) (v6 : Value) (v7 : Value) (v8 : Value) (v9 : Value) (v10 : Value) (v11 : Value) (w : Int32)  : gMv l yX8_feedWord wsP_c_X8_feedWord_4 ({ frames := 0, cells := 0, slots := 0, locals := 0 }) D cI cB cZ [] [.ref h0, .int w] [(h0, .inr (8, [.ref a0, .int 4, v2, v3, v4, v5, v6, v7, v8, v9, v10, v11])), (a0, .inl (cB, 4000, .inl f))] (fun w9 => w9 = [(h0, .inr (8, [.ref a0, .int 8, v2, v3, v4, v5, v6, v7, v8, v9, v10, v11])), (a0, .inl (cB, 4000, .inl (upd (upd (upd (upd f (Int32.toNatClampNeg 4) (vp_nar .byte ((w >>> ((24 : Int32) &&& 31)).toInt8.toInt32))) (Int32.toNatClampNeg 5) (vp_nar .byte ((w >>> ((16 : Int32) &&& 31)).toInt8.toInt32))) (Int32.toNatClampNeg 6) (vp_nar .byte ((w >>> ((8 : Int32) &&& 31)).toInt8.toInt32))) (Int32.toNatClampNeg 7) (vp_nar .byte ((w >>> ((0 : Int32) &&& 31)).toInt8.toInt32)))))]) := by
  refine gMv.of (cc := cX8_feedWord) (maxL := 3) (ret := none) (by decide) rfl (Nat.le_of_ble_eq_true rfl) (fun p e s m below meth c A ls hx hb hr hlk hml hts hown hin hA hP hK hD hS hN hl => ?_)
  have hown : s.vm.findClass RX8 = some m.cls := hown
  have hl : lv_has ls 3 [(0, .ref h0), (1, .int w)] := hl
  refine lv_bipush (v := 24) hx hb dX8_feedWord_0 (by decide) ?_
  refine lv_istore_n (lv' := [(2, .int 24), (0, .ref h0), (1, .int w)]) hx hb dX8_feedWord_2 rfl hl (by decide) rfl (fun ls hl => ?_)
  refine lv_iload_n hx hb dX8_feedWord_3 rfl (lv_at hl 0 rfl) ?_
  refine lv_if_lt (tgt := 46) hx hb dX8_feedWord_4 (by decide) (fun c9 => absurd c9 (by decide)) (fun _ => ?_)
  refine lv_aload_n hx hb dX8_feedWord_7 rfl (lv_at hl 1 rfl) ?_
  refine va_get (D := D) (ci := 8) (v := .int 4) (C := RX8) (T := TX8) (N := 12) hx hb hts (fun _ h => List.mem_cons_of_mem _ (List.mem_append_right _ h)) hown hK hP 0 rfl rfl 1 (by decide) (hts (.fieldLink RX8 62 "LitmusHall" "tapeSize" "I") (by decide +kernel)) (fun _ h9 => h9) rfl dX8_feedWord_8 ?_
  refine lv_sipush (v := 4000) hx hb dX8_feedWord_11 (by decide) ?_
  refine lv_icmp_ge (tgt := 46) hx hb dX8_feedWord_14 (by decide) (fun c9 => absurd c9 (by decide)) (fun _ => ?_)
  refine lv_aload_n hx hb dX8_feedWord_17 rfl (lv_at hl 1 rfl) ?_
  refine va_get (D := D) (ci := 8) (v := .ref a0) (C := RX8) (T := TX8) (N := 12) hx hb hts (fun _ h => List.mem_cons_of_mem _ (List.mem_append_right _ h)) hown hK hP 0 rfl rfl 0 (by decide) (hts (.fieldLink RX8 9 "LitmusHall" "tape" "[B") (by decide +kernel)) (fun _ h9 => h9) rfl dX8_feedWord_18 ?_
  refine lv_aload_n hx hb dX8_feedWord_21 rfl (lv_at hl 1 rfl) ?_
  refine va_get (D := D) (ci := 8) (v := .int 4) (C := RX8) (T := TX8) (N := 12) hx hb hts (fun _ h => List.mem_cons_of_mem _ (List.mem_append_right _ h)) hown hK hP 0 rfl rfl 1 (by decide) (hts (.fieldLink RX8 62 "LitmusHall" "tapeSize" "I") (by decide +kernel)) (fun _ h9 => h9) rfl dX8_feedWord_22 ?_
  refine lv_iload_n hx hb dX8_feedWord_25 rfl (lv_at hl 2 rfl) ?_
  refine lv_iload_n hx hb dX8_feedWord_26 rfl (lv_at hl 0 rfl) ?_
  refine lv_ishr hx hb dX8_feedWord_27 ?_
  refine lv_i2b (v := (w >>> ((24 : Int32) &&& 31)).toInt8.toInt32) hx hb dX8_feedWord_28 rfl ?_
  refine va_bast hx hb hK hP hD hS 1 1 rfl rfl (by unfold vp_in; decide +kernel) dX8_feedWord_29 (fun H locs hP hD hS => ?_)
  have hP : va_P D vwCl [(h0, .inr (8, [.ref a0, .int 4, v2, v3, v4, v5, v6, v7, v8, v9, v10, v11])), (a0, .inl (cB, 4000, .inl (upd f (Int32.toNatClampNeg 4) (vp_nar .byte ((w >>> ((24 : Int32) &&& 31)).toInt8.toInt32)))))] H := hP
  have hD : va_D A [(h0, .inr (8, [.ref a0, .int 4, v2, v3, v4, v5, v6, v7, v8, v9, v10, v11])), (a0, .inl (cB, 4000, .inl (upd f (Int32.toNatClampNeg 4) (vp_nar .byte ((w >>> ((24 : Int32) &&& 31)).toInt8.toInt32)))))] := hD
  refine lv_aload_n hx hb dX8_feedWord_30 rfl (lv_at hl 1 rfl) ?_
  refine lv_dup hx hb dX8_feedWord_31 rfl ?_
  refine va_get (D := D) (ci := 8) (v := .int 4) (C := RX8) (T := TX8) (N := 12) hx hb hts (fun _ h => List.mem_cons_of_mem _ (List.mem_append_right _ h)) hown hK hP 0 rfl rfl 1 (by decide) (hts (.fieldLink RX8 62 "LitmusHall" "tapeSize" "I") (by decide +kernel)) (fun _ h9 => h9) rfl dX8_feedWord_32 ?_
  refine lv_iconst (v := 1) hx hb dX8_feedWord_35 (by decide) ?_
  refine lv_iadd hx hb dX8_feedWord_36 ?_
  refine gx_top (y := 5) (by decide +kernel) ?_
  refine va_put (D := D) (ci := 8) (v := .int 5) (ty := .int) (C := RX8) (T := TX8) (N := 12) hx hb hts (fun _ h => List.mem_cons_of_mem _ (List.mem_append_right _ h)) tyX8 tyX8_ok nmX8 hown hK hP hD hS 0 rfl rfl 1 (by decide) (hts (.fieldLink RX8 62 "LitmusHall" "tapeSize" "I") (by decide +kernel)) (fun _ h9 => h9) rfl (by decide +kernel) rfl rfl (Nat.le_of_ble_eq_true rfl) dX8_feedWord_37 (fun H locs hP hD hS => ?_)
  have hP : va_P D vwCl [(h0, .inr (8, [.ref a0, .int 5, v2, v3, v4, v5, v6, v7, v8, v9, v10, v11])), (a0, .inl (cB, 4000, .inl (upd f (Int32.toNatClampNeg 4) (vp_nar .byte ((w >>> ((24 : Int32) &&& 31)).toInt8.toInt32)))))] H := hP
  have hD : va_D A [(h0, .inr (8, [.ref a0, .int 5, v2, v3, v4, v5, v6, v7, v8, v9, v10, v11])), (a0, .inl (cB, 4000, .inl (upd f (Int32.toNatClampNeg 4) (vp_nar .byte ((w >>> ((24 : Int32) &&& 31)).toInt8.toInt32)))))] := hD
  refine lv_iinc (v := 16) (lv' := [(2, .int 16), (0, .ref h0), (1, .int w)]) hx hb dX8_feedWord_40 hl (k := 0) rfl (by decide +kernel) (by decide) rfl (fun ls hl => ?_)
  refine lv_goto (tgt := 3) hx hb dX8_feedWord_43 (by decide) ?_
  refine lv_iload_n hx hb dX8_feedWord_3 rfl (lv_at hl 0 rfl) ?_
  refine lv_if_lt (tgt := 46) hx hb dX8_feedWord_4 (by decide) (fun c9 => absurd c9 (by decide)) (fun _ => ?_)
  refine lv_aload_n hx hb dX8_feedWord_7 rfl (lv_at hl 1 rfl) ?_
  refine va_get (D := D) (ci := 8) (v := .int 5) (C := RX8) (T := TX8) (N := 12) hx hb hts (fun _ h => List.mem_cons_of_mem _ (List.mem_append_right _ h)) hown hK hP 0 rfl rfl 1 (by decide) (hts (.fieldLink RX8 62 "LitmusHall" "tapeSize" "I") (by decide +kernel)) (fun _ h9 => h9) rfl dX8_feedWord_8 ?_
  refine lv_sipush (v := 4000) hx hb dX8_feedWord_11 (by decide) ?_
  refine lv_icmp_ge (tgt := 46) hx hb dX8_feedWord_14 (by decide) (fun c9 => absurd c9 (by decide)) (fun _ => ?_)
  refine lv_aload_n hx hb dX8_feedWord_17 rfl (lv_at hl 1 rfl) ?_
  refine va_get (D := D) (ci := 8) (v := .ref a0) (C := RX8) (T := TX8) (N := 12) hx hb hts (fun _ h => List.mem_cons_of_mem _ (List.mem_append_right _ h)) hown hK hP 0 rfl rfl 0 (by decide) (hts (.fieldLink RX8 9 "LitmusHall" "tape" "[B") (by decide +kernel)) (fun _ h9 => h9) rfl dX8_feedWord_18 ?_
  refine lv_aload_n hx hb dX8_feedWord_21 rfl (lv_at hl 1 rfl) ?_
  refine va_get (D := D) (ci := 8) (v := .int 5) (C := RX8) (T := TX8) (N := 12) hx hb hts (fun _ h => List.mem_cons_of_mem _ (List.mem_append_right _ h)) hown hK hP 0 rfl rfl 1 (by decide) (hts (.fieldLink RX8 62 "LitmusHall" "tapeSize" "I") (by decide +kernel)) (fun _ h9 => h9) rfl dX8_feedWord_22 ?_
  refine lv_iload_n hx hb dX8_feedWord_25 rfl (lv_at hl 2 rfl) ?_
  refine lv_iload_n hx hb dX8_feedWord_26 rfl (lv_at hl 0 rfl) ?_
  refine lv_ishr hx hb dX8_feedWord_27 ?_
  refine lv_i2b (v := (w >>> ((16 : Int32) &&& 31)).toInt8.toInt32) hx hb dX8_feedWord_28 rfl ?_
  refine va_bast hx hb hK hP hD hS 1 1 rfl rfl (by unfold vp_in; decide +kernel) dX8_feedWord_29 (fun H locs hP hD hS => ?_)
  have hP : va_P D vwCl [(h0, .inr (8, [.ref a0, .int 5, v2, v3, v4, v5, v6, v7, v8, v9, v10, v11])), (a0, .inl (cB, 4000, .inl (upd (upd f (Int32.toNatClampNeg 4) (vp_nar .byte ((w >>> ((24 : Int32) &&& 31)).toInt8.toInt32))) (Int32.toNatClampNeg 5) (vp_nar .byte ((w >>> ((16 : Int32) &&& 31)).toInt8.toInt32)))))] H := hP
  have hD : va_D A [(h0, .inr (8, [.ref a0, .int 5, v2, v3, v4, v5, v6, v7, v8, v9, v10, v11])), (a0, .inl (cB, 4000, .inl (upd (upd f (Int32.toNatClampNeg 4) (vp_nar .byte ((w >>> ((24 : Int32) &&& 31)).toInt8.toInt32))) (Int32.toNatClampNeg 5) (vp_nar .byte ((w >>> ((16 : Int32) &&& 31)).toInt8.toInt32)))))] := hD
  refine lv_aload_n hx hb dX8_feedWord_30 rfl (lv_at hl 1 rfl) ?_
  refine lv_dup hx hb dX8_feedWord_31 rfl ?_
  refine va_get (D := D) (ci := 8) (v := .int 5) (C := RX8) (T := TX8) (N := 12) hx hb hts (fun _ h => List.mem_cons_of_mem _ (List.mem_append_right _ h)) hown hK hP 0 rfl rfl 1 (by decide) (hts (.fieldLink RX8 62 "LitmusHall" "tapeSize" "I") (by decide +kernel)) (fun _ h9 => h9) rfl dX8_feedWord_32 ?_
  refine lv_iconst (v := 1) hx hb dX8_feedWord_35 (by decide) ?_
  refine lv_iadd hx hb dX8_feedWord_36 ?_
  refine gx_top (y := 6) (by decide +kernel) ?_
  refine va_put (D := D) (ci := 8) (v := .int 6) (ty := .int) (C := RX8) (T := TX8) (N := 12) hx hb hts (fun _ h => List.mem_cons_of_mem _ (List.mem_append_right _ h)) tyX8 tyX8_ok nmX8 hown hK hP hD hS 0 rfl rfl 1 (by decide) (hts (.fieldLink RX8 62 "LitmusHall" "tapeSize" "I") (by decide +kernel)) (fun _ h9 => h9) rfl (by decide +kernel) rfl rfl (Nat.le_of_ble_eq_true rfl) dX8_feedWord_37 (fun H locs hP hD hS => ?_)
  have hP : va_P D vwCl [(h0, .inr (8, [.ref a0, .int 6, v2, v3, v4, v5, v6, v7, v8, v9, v10, v11])), (a0, .inl (cB, 4000, .inl (upd (upd f (Int32.toNatClampNeg 4) (vp_nar .byte ((w >>> ((24 : Int32) &&& 31)).toInt8.toInt32))) (Int32.toNatClampNeg 5) (vp_nar .byte ((w >>> ((16 : Int32) &&& 31)).toInt8.toInt32)))))] H := hP
  have hD : va_D A [(h0, .inr (8, [.ref a0, .int 6, v2, v3, v4, v5, v6, v7, v8, v9, v10, v11])), (a0, .inl (cB, 4000, .inl (upd (upd f (Int32.toNatClampNeg 4) (vp_nar .byte ((w >>> ((24 : Int32) &&& 31)).toInt8.toInt32))) (Int32.toNatClampNeg 5) (vp_nar .byte ((w >>> ((16 : Int32) &&& 31)).toInt8.toInt32)))))] := hD
  refine lv_iinc (v := 8) (lv' := [(2, .int 8), (0, .ref h0), (1, .int w)]) hx hb dX8_feedWord_40 hl (k := 0) rfl (by decide +kernel) (by decide) rfl (fun ls hl => ?_)
  refine lv_goto (tgt := 3) hx hb dX8_feedWord_43 (by decide) ?_
  refine lv_iload_n hx hb dX8_feedWord_3 rfl (lv_at hl 0 rfl) ?_
  refine lv_if_lt (tgt := 46) hx hb dX8_feedWord_4 (by decide) (fun c9 => absurd c9 (by decide)) (fun _ => ?_)
  refine lv_aload_n hx hb dX8_feedWord_7 rfl (lv_at hl 1 rfl) ?_
  refine va_get (D := D) (ci := 8) (v := .int 6) (C := RX8) (T := TX8) (N := 12) hx hb hts (fun _ h => List.mem_cons_of_mem _ (List.mem_append_right _ h)) hown hK hP 0 rfl rfl 1 (by decide) (hts (.fieldLink RX8 62 "LitmusHall" "tapeSize" "I") (by decide +kernel)) (fun _ h9 => h9) rfl dX8_feedWord_8 ?_
  refine lv_sipush (v := 4000) hx hb dX8_feedWord_11 (by decide) ?_
  refine lv_icmp_ge (tgt := 46) hx hb dX8_feedWord_14 (by decide) (fun c9 => absurd c9 (by decide)) (fun _ => ?_)
  refine lv_aload_n hx hb dX8_feedWord_17 rfl (lv_at hl 1 rfl) ?_
  refine va_get (D := D) (ci := 8) (v := .ref a0) (C := RX8) (T := TX8) (N := 12) hx hb hts (fun _ h => List.mem_cons_of_mem _ (List.mem_append_right _ h)) hown hK hP 0 rfl rfl 0 (by decide) (hts (.fieldLink RX8 9 "LitmusHall" "tape" "[B") (by decide +kernel)) (fun _ h9 => h9) rfl dX8_feedWord_18 ?_
  refine lv_aload_n hx hb dX8_feedWord_21 rfl (lv_at hl 1 rfl) ?_
  refine va_get (D := D) (ci := 8) (v := .int 6) (C := RX8) (T := TX8) (N := 12) hx hb hts (fun _ h => List.mem_cons_of_mem _ (List.mem_append_right _ h)) hown hK hP 0 rfl rfl 1 (by decide) (hts (.fieldLink RX8 62 "LitmusHall" "tapeSize" "I") (by decide +kernel)) (fun _ h9 => h9) rfl dX8_feedWord_22 ?_
  refine lv_iload_n hx hb dX8_feedWord_25 rfl (lv_at hl 2 rfl) ?_
  refine lv_iload_n hx hb dX8_feedWord_26 rfl (lv_at hl 0 rfl) ?_
  refine lv_ishr hx hb dX8_feedWord_27 ?_
  refine lv_i2b (v := (w >>> ((8 : Int32) &&& 31)).toInt8.toInt32) hx hb dX8_feedWord_28 rfl ?_
  refine va_bast hx hb hK hP hD hS 1 1 rfl rfl (by unfold vp_in; decide +kernel) dX8_feedWord_29 (fun H locs hP hD hS => ?_)
  have hP : va_P D vwCl [(h0, .inr (8, [.ref a0, .int 6, v2, v3, v4, v5, v6, v7, v8, v9, v10, v11])), (a0, .inl (cB, 4000, .inl (upd (upd (upd f (Int32.toNatClampNeg 4) (vp_nar .byte ((w >>> ((24 : Int32) &&& 31)).toInt8.toInt32))) (Int32.toNatClampNeg 5) (vp_nar .byte ((w >>> ((16 : Int32) &&& 31)).toInt8.toInt32))) (Int32.toNatClampNeg 6) (vp_nar .byte ((w >>> ((8 : Int32) &&& 31)).toInt8.toInt32)))))] H := hP
  have hD : va_D A [(h0, .inr (8, [.ref a0, .int 6, v2, v3, v4, v5, v6, v7, v8, v9, v10, v11])), (a0, .inl (cB, 4000, .inl (upd (upd (upd f (Int32.toNatClampNeg 4) (vp_nar .byte ((w >>> ((24 : Int32) &&& 31)).toInt8.toInt32))) (Int32.toNatClampNeg 5) (vp_nar .byte ((w >>> ((16 : Int32) &&& 31)).toInt8.toInt32))) (Int32.toNatClampNeg 6) (vp_nar .byte ((w >>> ((8 : Int32) &&& 31)).toInt8.toInt32)))))] := hD
  refine lv_aload_n hx hb dX8_feedWord_30 rfl (lv_at hl 1 rfl) ?_
  refine lv_dup hx hb dX8_feedWord_31 rfl ?_
  refine va_get (D := D) (ci := 8) (v := .int 6) (C := RX8) (T := TX8) (N := 12) hx hb hts (fun _ h => List.mem_cons_of_mem _ (List.mem_append_right _ h)) hown hK hP 0 rfl rfl 1 (by decide) (hts (.fieldLink RX8 62 "LitmusHall" "tapeSize" "I") (by decide +kernel)) (fun _ h9 => h9) rfl dX8_feedWord_32 ?_
  refine lv_iconst (v := 1) hx hb dX8_feedWord_35 (by decide) ?_
  refine lv_iadd hx hb dX8_feedWord_36 ?_
  refine gx_top (y := 7) (by decide +kernel) ?_
  refine va_put (D := D) (ci := 8) (v := .int 7) (ty := .int) (C := RX8) (T := TX8) (N := 12) hx hb hts (fun _ h => List.mem_cons_of_mem _ (List.mem_append_right _ h)) tyX8 tyX8_ok nmX8 hown hK hP hD hS 0 rfl rfl 1 (by decide) (hts (.fieldLink RX8 62 "LitmusHall" "tapeSize" "I") (by decide +kernel)) (fun _ h9 => h9) rfl (by decide +kernel) rfl rfl (Nat.le_of_ble_eq_true rfl) dX8_feedWord_37 (fun H locs hP hD hS => ?_)
  have hP : va_P D vwCl [(h0, .inr (8, [.ref a0, .int 7, v2, v3, v4, v5, v6, v7, v8, v9, v10, v11])), (a0, .inl (cB, 4000, .inl (upd (upd (upd f (Int32.toNatClampNeg 4) (vp_nar .byte ((w >>> ((24 : Int32) &&& 31)).toInt8.toInt32))) (Int32.toNatClampNeg 5) (vp_nar .byte ((w >>> ((16 : Int32) &&& 31)).toInt8.toInt32))) (Int32.toNatClampNeg 6) (vp_nar .byte ((w >>> ((8 : Int32) &&& 31)).toInt8.toInt32)))))] H := hP
  have hD : va_D A [(h0, .inr (8, [.ref a0, .int 7, v2, v3, v4, v5, v6, v7, v8, v9, v10, v11])), (a0, .inl (cB, 4000, .inl (upd (upd (upd f (Int32.toNatClampNeg 4) (vp_nar .byte ((w >>> ((24 : Int32) &&& 31)).toInt8.toInt32))) (Int32.toNatClampNeg 5) (vp_nar .byte ((w >>> ((16 : Int32) &&& 31)).toInt8.toInt32))) (Int32.toNatClampNeg 6) (vp_nar .byte ((w >>> ((8 : Int32) &&& 31)).toInt8.toInt32)))))] := hD
  refine lv_iinc (v := 0) (lv' := [(2, .int 0), (0, .ref h0), (1, .int w)]) hx hb dX8_feedWord_40 hl (k := 0) rfl (by decide +kernel) (by decide) rfl (fun ls hl => ?_)
  refine lv_goto (tgt := 3) hx hb dX8_feedWord_43 (by decide) ?_
  refine lv_iload_n hx hb dX8_feedWord_3 rfl (lv_at hl 0 rfl) ?_
  refine lv_if_lt (tgt := 46) hx hb dX8_feedWord_4 (by decide) (fun c9 => absurd c9 (by decide)) (fun _ => ?_)
  refine lv_aload_n hx hb dX8_feedWord_7 rfl (lv_at hl 1 rfl) ?_
  refine va_get (D := D) (ci := 8) (v := .int 7) (C := RX8) (T := TX8) (N := 12) hx hb hts (fun _ h => List.mem_cons_of_mem _ (List.mem_append_right _ h)) hown hK hP 0 rfl rfl 1 (by decide) (hts (.fieldLink RX8 62 "LitmusHall" "tapeSize" "I") (by decide +kernel)) (fun _ h9 => h9) rfl dX8_feedWord_8 ?_
  refine lv_sipush (v := 4000) hx hb dX8_feedWord_11 (by decide) ?_
  refine lv_icmp_ge (tgt := 46) hx hb dX8_feedWord_14 (by decide) (fun c9 => absurd c9 (by decide)) (fun _ => ?_)
  refine lv_aload_n hx hb dX8_feedWord_17 rfl (lv_at hl 1 rfl) ?_
  refine va_get (D := D) (ci := 8) (v := .ref a0) (C := RX8) (T := TX8) (N := 12) hx hb hts (fun _ h => List.mem_cons_of_mem _ (List.mem_append_right _ h)) hown hK hP 0 rfl rfl 0 (by decide) (hts (.fieldLink RX8 9 "LitmusHall" "tape" "[B") (by decide +kernel)) (fun _ h9 => h9) rfl dX8_feedWord_18 ?_
  refine lv_aload_n hx hb dX8_feedWord_21 rfl (lv_at hl 1 rfl) ?_
  refine va_get (D := D) (ci := 8) (v := .int 7) (C := RX8) (T := TX8) (N := 12) hx hb hts (fun _ h => List.mem_cons_of_mem _ (List.mem_append_right _ h)) hown hK hP 0 rfl rfl 1 (by decide) (hts (.fieldLink RX8 62 "LitmusHall" "tapeSize" "I") (by decide +kernel)) (fun _ h9 => h9) rfl dX8_feedWord_22 ?_
  refine lv_iload_n hx hb dX8_feedWord_25 rfl (lv_at hl 2 rfl) ?_
  refine lv_iload_n hx hb dX8_feedWord_26 rfl (lv_at hl 0 rfl) ?_
  refine lv_ishr hx hb dX8_feedWord_27 ?_
  refine lv_i2b (v := (w >>> ((0 : Int32) &&& 31)).toInt8.toInt32) hx hb dX8_feedWord_28 rfl ?_
  refine va_bast hx hb hK hP hD hS 1 1 rfl rfl (by unfold vp_in; decide +kernel) dX8_feedWord_29 (fun H locs hP hD hS => ?_)
  have hP : va_P D vwCl [(h0, .inr (8, [.ref a0, .int 7, v2, v3, v4, v5, v6, v7, v8, v9, v10, v11])), (a0, .inl (cB, 4000, .inl (upd (upd (upd (upd f (Int32.toNatClampNeg 4) (vp_nar .byte ((w >>> ((24 : Int32) &&& 31)).toInt8.toInt32))) (Int32.toNatClampNeg 5) (vp_nar .byte ((w >>> ((16 : Int32) &&& 31)).toInt8.toInt32))) (Int32.toNatClampNeg 6) (vp_nar .byte ((w >>> ((8 : Int32) &&& 31)).toInt8.toInt32))) (Int32.toNatClampNeg 7) (vp_nar .byte ((w >>> ((0 : Int32) &&& 31)).toInt8.toInt32)))))] H := hP
  have hD : va_D A [(h0, .inr (8, [.ref a0, .int 7, v2, v3, v4, v5, v6, v7, v8, v9, v10, v11])), (a0, .inl (cB, 4000, .inl (upd (upd (upd (upd f (Int32.toNatClampNeg 4) (vp_nar .byte ((w >>> ((24 : Int32) &&& 31)).toInt8.toInt32))) (Int32.toNatClampNeg 5) (vp_nar .byte ((w >>> ((16 : Int32) &&& 31)).toInt8.toInt32))) (Int32.toNatClampNeg 6) (vp_nar .byte ((w >>> ((8 : Int32) &&& 31)).toInt8.toInt32))) (Int32.toNatClampNeg 7) (vp_nar .byte ((w >>> ((0 : Int32) &&& 31)).toInt8.toInt32)))))] := hD
  refine lv_aload_n hx hb dX8_feedWord_30 rfl (lv_at hl 1 rfl) ?_
  refine lv_dup hx hb dX8_feedWord_31 rfl ?_
  refine va_get (D := D) (ci := 8) (v := .int 7) (C := RX8) (T := TX8) (N := 12) hx hb hts (fun _ h => List.mem_cons_of_mem _ (List.mem_append_right _ h)) hown hK hP 0 rfl rfl 1 (by decide) (hts (.fieldLink RX8 62 "LitmusHall" "tapeSize" "I") (by decide +kernel)) (fun _ h9 => h9) rfl dX8_feedWord_32 ?_
  refine lv_iconst (v := 1) hx hb dX8_feedWord_35 (by decide) ?_
  refine lv_iadd hx hb dX8_feedWord_36 ?_
  refine gx_top (y := 8) (by decide +kernel) ?_
  refine va_put (D := D) (ci := 8) (v := .int 8) (ty := .int) (C := RX8) (T := TX8) (N := 12) hx hb hts (fun _ h => List.mem_cons_of_mem _ (List.mem_append_right _ h)) tyX8 tyX8_ok nmX8 hown hK hP hD hS 0 rfl rfl 1 (by decide) (hts (.fieldLink RX8 62 "LitmusHall" "tapeSize" "I") (by decide +kernel)) (fun _ h9 => h9) rfl (by decide +kernel) rfl rfl (Nat.le_of_ble_eq_true rfl) dX8_feedWord_37 (fun H locs hP hD hS => ?_)
  have hP : va_P D vwCl [(h0, .inr (8, [.ref a0, .int 8, v2, v3, v4, v5, v6, v7, v8, v9, v10, v11])), (a0, .inl (cB, 4000, .inl (upd (upd (upd (upd f (Int32.toNatClampNeg 4) (vp_nar .byte ((w >>> ((24 : Int32) &&& 31)).toInt8.toInt32))) (Int32.toNatClampNeg 5) (vp_nar .byte ((w >>> ((16 : Int32) &&& 31)).toInt8.toInt32))) (Int32.toNatClampNeg 6) (vp_nar .byte ((w >>> ((8 : Int32) &&& 31)).toInt8.toInt32))) (Int32.toNatClampNeg 7) (vp_nar .byte ((w >>> ((0 : Int32) &&& 31)).toInt8.toInt32)))))] H := hP
  have hD : va_D A [(h0, .inr (8, [.ref a0, .int 8, v2, v3, v4, v5, v6, v7, v8, v9, v10, v11])), (a0, .inl (cB, 4000, .inl (upd (upd (upd (upd f (Int32.toNatClampNeg 4) (vp_nar .byte ((w >>> ((24 : Int32) &&& 31)).toInt8.toInt32))) (Int32.toNatClampNeg 5) (vp_nar .byte ((w >>> ((16 : Int32) &&& 31)).toInt8.toInt32))) (Int32.toNatClampNeg 6) (vp_nar .byte ((w >>> ((8 : Int32) &&& 31)).toInt8.toInt32))) (Int32.toNatClampNeg 7) (vp_nar .byte ((w >>> ((0 : Int32) &&& 31)).toInt8.toInt32)))))] := hD
  refine lv_iinc (v := (-8)) (lv' := [(2, .int (-8)), (0, .ref h0), (1, .int w)]) hx hb dX8_feedWord_40 hl (k := 0) rfl (by decide +kernel) (by decide) rfl (fun ls hl => ?_)
  refine lv_goto (tgt := 3) hx hb dX8_feedWord_43 (by decide) ?_
  refine lv_iload_n hx hb dX8_feedWord_3 rfl (lv_at hl 0 rfl) ?_
  refine lv_if_lt (tgt := 46) hx hb dX8_feedWord_4 (by decide) (fun _ => ?_) (fun c9 => absurd (by decide) c9)
  exact gx_vret hx hb hr hlk hK hP hD hS (Nat.le_of_ble_eq_true rfl) (Nat.le_of_ble_eq_true rfl) dX8_feedWord_46 rfl
def wsP_c_X8_feedWord_8 : List Cond := .code yX8_feedWord cX8_feedWord 3 none :: ([.fieldLink RX8 62 "LitmusHall" "tapeSize" "I", .fieldLink RX8 9 "LitmusHall" "tape" "[B"] ++ wsX80)
set_option maxHeartbeats 4000000 in
set_option maxRecDepth 100000 in
theorem c_X8_feedWord_8 (l : Launch) (D : va_G) (cI cB cZ : ClassId) (h0 : Nat) (a0 : Nat) (f : Nat → Int32) (v2 : Value) (v3 : Value) (v4 : Value) (v5 : Value) (v6 : Value) (v7 : Value) (v8 : Value) (v9 : Value) (v10 : Value) (v11 : Value) (w : Int32)  : gMv l yX8_feedWord wsP_c_X8_feedWord_8 ({ frames := 0, cells := 0, slots := 0, locals := 0 }) D cI cB cZ [] [.ref h0, .int w] [(h0, .inr (8, [.ref a0, .int 8, v2, v3, v4, v5, v6, v7, v8, v9, v10, v11])), (a0, .inl (cB, 4000, .inl f))] (fun w9 => w9 = [(h0, .inr (8, [.ref a0, .int 12, v2, v3, v4, v5, v6, v7, v8, v9, v10, v11])), (a0, .inl (cB, 4000, .inl (upd (upd (upd (upd f (Int32.toNatClampNeg 8) (vp_nar .byte ((w >>> ((24 : Int32) &&& 31)).toInt8.toInt32))) (Int32.toNatClampNeg 9) (vp_nar .byte ((w >>> ((16 : Int32) &&& 31)).toInt8.toInt32))) (Int32.toNatClampNeg 10) (vp_nar .byte ((w >>> ((8 : Int32) &&& 31)).toInt8.toInt32))) (Int32.toNatClampNeg 11) (vp_nar .byte ((w >>> ((0 : Int32) &&& 31)).toInt8.toInt32)))))]) := by
  refine gMv.of (cc := cX8_feedWord) (maxL := 3) (ret := none) (by decide) rfl (Nat.le_of_ble_eq_true rfl) (fun p e s m below meth c A ls hx hb hr hlk hml hts hown hin hA hP hK hD hS hN hl => ?_)
  have hown : s.vm.findClass RX8 = some m.cls := hown
  have hl : lv_has ls 3 [(0, .ref h0), (1, .int w)] := hl
  refine lv_bipush (v := 24) hx hb dX8_feedWord_0 (by decide) ?_
  refine lv_istore_n (lv' := [(2, .int 24), (0, .ref h0), (1, .int w)]) hx hb dX8_feedWord_2 rfl hl (by decide) rfl (fun ls hl => ?_)
  refine lv_iload_n hx hb dX8_feedWord_3 rfl (lv_at hl 0 rfl) ?_
  refine lv_if_lt (tgt := 46) hx hb dX8_feedWord_4 (by decide) (fun c9 => absurd c9 (by decide)) (fun _ => ?_)
  refine lv_aload_n hx hb dX8_feedWord_7 rfl (lv_at hl 1 rfl) ?_
  refine va_get (D := D) (ci := 8) (v := .int 8) (C := RX8) (T := TX8) (N := 12) hx hb hts (fun _ h => List.mem_cons_of_mem _ (List.mem_append_right _ h)) hown hK hP 0 rfl rfl 1 (by decide) (hts (.fieldLink RX8 62 "LitmusHall" "tapeSize" "I") (by decide +kernel)) (fun _ h9 => h9) rfl dX8_feedWord_8 ?_
  refine lv_sipush (v := 4000) hx hb dX8_feedWord_11 (by decide) ?_
  refine lv_icmp_ge (tgt := 46) hx hb dX8_feedWord_14 (by decide) (fun c9 => absurd c9 (by decide)) (fun _ => ?_)
  refine lv_aload_n hx hb dX8_feedWord_17 rfl (lv_at hl 1 rfl) ?_
  refine va_get (D := D) (ci := 8) (v := .ref a0) (C := RX8) (T := TX8) (N := 12) hx hb hts (fun _ h => List.mem_cons_of_mem _ (List.mem_append_right _ h)) hown hK hP 0 rfl rfl 0 (by decide) (hts (.fieldLink RX8 9 "LitmusHall" "tape" "[B") (by decide +kernel)) (fun _ h9 => h9) rfl dX8_feedWord_18 ?_
  refine lv_aload_n hx hb dX8_feedWord_21 rfl (lv_at hl 1 rfl) ?_
  refine va_get (D := D) (ci := 8) (v := .int 8) (C := RX8) (T := TX8) (N := 12) hx hb hts (fun _ h => List.mem_cons_of_mem _ (List.mem_append_right _ h)) hown hK hP 0 rfl rfl 1 (by decide) (hts (.fieldLink RX8 62 "LitmusHall" "tapeSize" "I") (by decide +kernel)) (fun _ h9 => h9) rfl dX8_feedWord_22 ?_
  refine lv_iload_n hx hb dX8_feedWord_25 rfl (lv_at hl 2 rfl) ?_
  refine lv_iload_n hx hb dX8_feedWord_26 rfl (lv_at hl 0 rfl) ?_
  refine lv_ishr hx hb dX8_feedWord_27 ?_
  refine lv_i2b (v := (w >>> ((24 : Int32) &&& 31)).toInt8.toInt32) hx hb dX8_feedWord_28 rfl ?_
  refine va_bast hx hb hK hP hD hS 1 1 rfl rfl (by unfold vp_in; decide +kernel) dX8_feedWord_29 (fun H locs hP hD hS => ?_)
  have hP : va_P D vwCl [(h0, .inr (8, [.ref a0, .int 8, v2, v3, v4, v5, v6, v7, v8, v9, v10, v11])), (a0, .inl (cB, 4000, .inl (upd f (Int32.toNatClampNeg 8) (vp_nar .byte ((w >>> ((24 : Int32) &&& 31)).toInt8.toInt32)))))] H := hP
  have hD : va_D A [(h0, .inr (8, [.ref a0, .int 8, v2, v3, v4, v5, v6, v7, v8, v9, v10, v11])), (a0, .inl (cB, 4000, .inl (upd f (Int32.toNatClampNeg 8) (vp_nar .byte ((w >>> ((24 : Int32) &&& 31)).toInt8.toInt32)))))] := hD
  refine lv_aload_n hx hb dX8_feedWord_30 rfl (lv_at hl 1 rfl) ?_
  refine lv_dup hx hb dX8_feedWord_31 rfl ?_
  refine va_get (D := D) (ci := 8) (v := .int 8) (C := RX8) (T := TX8) (N := 12) hx hb hts (fun _ h => List.mem_cons_of_mem _ (List.mem_append_right _ h)) hown hK hP 0 rfl rfl 1 (by decide) (hts (.fieldLink RX8 62 "LitmusHall" "tapeSize" "I") (by decide +kernel)) (fun _ h9 => h9) rfl dX8_feedWord_32 ?_
  refine lv_iconst (v := 1) hx hb dX8_feedWord_35 (by decide) ?_
  refine lv_iadd hx hb dX8_feedWord_36 ?_
  refine gx_top (y := 9) (by decide +kernel) ?_
  refine va_put (D := D) (ci := 8) (v := .int 9) (ty := .int) (C := RX8) (T := TX8) (N := 12) hx hb hts (fun _ h => List.mem_cons_of_mem _ (List.mem_append_right _ h)) tyX8 tyX8_ok nmX8 hown hK hP hD hS 0 rfl rfl 1 (by decide) (hts (.fieldLink RX8 62 "LitmusHall" "tapeSize" "I") (by decide +kernel)) (fun _ h9 => h9) rfl (by decide +kernel) rfl rfl (Nat.le_of_ble_eq_true rfl) dX8_feedWord_37 (fun H locs hP hD hS => ?_)
  have hP : va_P D vwCl [(h0, .inr (8, [.ref a0, .int 9, v2, v3, v4, v5, v6, v7, v8, v9, v10, v11])), (a0, .inl (cB, 4000, .inl (upd f (Int32.toNatClampNeg 8) (vp_nar .byte ((w >>> ((24 : Int32) &&& 31)).toInt8.toInt32)))))] H := hP
  have hD : va_D A [(h0, .inr (8, [.ref a0, .int 9, v2, v3, v4, v5, v6, v7, v8, v9, v10, v11])), (a0, .inl (cB, 4000, .inl (upd f (Int32.toNatClampNeg 8) (vp_nar .byte ((w >>> ((24 : Int32) &&& 31)).toInt8.toInt32)))))] := hD
  refine lv_iinc (v := 16) (lv' := [(2, .int 16), (0, .ref h0), (1, .int w)]) hx hb dX8_feedWord_40 hl (k := 0) rfl (by decide +kernel) (by decide) rfl (fun ls hl => ?_)
  refine lv_goto (tgt := 3) hx hb dX8_feedWord_43 (by decide) ?_
  refine lv_iload_n hx hb dX8_feedWord_3 rfl (lv_at hl 0 rfl) ?_
  refine lv_if_lt (tgt := 46) hx hb dX8_feedWord_4 (by decide) (fun c9 => absurd c9 (by decide)) (fun _ => ?_)
  refine lv_aload_n hx hb dX8_feedWord_7 rfl (lv_at hl 1 rfl) ?_
  refine va_get (D := D) (ci := 8) (v := .int 9) (C := RX8) (T := TX8) (N := 12) hx hb hts (fun _ h => List.mem_cons_of_mem _ (List.mem_append_right _ h)) hown hK hP 0 rfl rfl 1 (by decide) (hts (.fieldLink RX8 62 "LitmusHall" "tapeSize" "I") (by decide +kernel)) (fun _ h9 => h9) rfl dX8_feedWord_8 ?_
  refine lv_sipush (v := 4000) hx hb dX8_feedWord_11 (by decide) ?_
  refine lv_icmp_ge (tgt := 46) hx hb dX8_feedWord_14 (by decide) (fun c9 => absurd c9 (by decide)) (fun _ => ?_)
  refine lv_aload_n hx hb dX8_feedWord_17 rfl (lv_at hl 1 rfl) ?_
  refine va_get (D := D) (ci := 8) (v := .ref a0) (C := RX8) (T := TX8) (N := 12) hx hb hts (fun _ h => List.mem_cons_of_mem _ (List.mem_append_right _ h)) hown hK hP 0 rfl rfl 0 (by decide) (hts (.fieldLink RX8 9 "LitmusHall" "tape" "[B") (by decide +kernel)) (fun _ h9 => h9) rfl dX8_feedWord_18 ?_
  refine lv_aload_n hx hb dX8_feedWord_21 rfl (lv_at hl 1 rfl) ?_
  refine va_get (D := D) (ci := 8) (v := .int 9) (C := RX8) (T := TX8) (N := 12) hx hb hts (fun _ h => List.mem_cons_of_mem _ (List.mem_append_right _ h)) hown hK hP 0 rfl rfl 1 (by decide) (hts (.fieldLink RX8 62 "LitmusHall" "tapeSize" "I") (by decide +kernel)) (fun _ h9 => h9) rfl dX8_feedWord_22 ?_
  refine lv_iload_n hx hb dX8_feedWord_25 rfl (lv_at hl 2 rfl) ?_
  refine lv_iload_n hx hb dX8_feedWord_26 rfl (lv_at hl 0 rfl) ?_
  refine lv_ishr hx hb dX8_feedWord_27 ?_
  refine lv_i2b (v := (w >>> ((16 : Int32) &&& 31)).toInt8.toInt32) hx hb dX8_feedWord_28 rfl ?_
  refine va_bast hx hb hK hP hD hS 1 1 rfl rfl (by unfold vp_in; decide +kernel) dX8_feedWord_29 (fun H locs hP hD hS => ?_)
  have hP : va_P D vwCl [(h0, .inr (8, [.ref a0, .int 9, v2, v3, v4, v5, v6, v7, v8, v9, v10, v11])), (a0, .inl (cB, 4000, .inl (upd (upd f (Int32.toNatClampNeg 8) (vp_nar .byte ((w >>> ((24 : Int32) &&& 31)).toInt8.toInt32))) (Int32.toNatClampNeg 9) (vp_nar .byte ((w >>> ((16 : Int32) &&& 31)).toInt8.toInt32)))))] H := hP
  have hD : va_D A [(h0, .inr (8, [.ref a0, .int 9, v2, v3, v4, v5, v6, v7, v8, v9, v10, v11])), (a0, .inl (cB, 4000, .inl (upd (upd f (Int32.toNatClampNeg 8) (vp_nar .byte ((w >>> ((24 : Int32) &&& 31)).toInt8.toInt32))) (Int32.toNatClampNeg 9) (vp_nar .byte ((w >>> ((16 : Int32) &&& 31)).toInt8.toInt32)))))] := hD
  refine lv_aload_n hx hb dX8_feedWord_30 rfl (lv_at hl 1 rfl) ?_
  refine lv_dup hx hb dX8_feedWord_31 rfl ?_
  refine va_get (D := D) (ci := 8) (v := .int 9) (C := RX8) (T := TX8) (N := 12) hx hb hts (fun _ h => List.mem_cons_of_mem _ (List.mem_append_right _ h)) hown hK hP 0 rfl rfl 1 (by decide) (hts (.fieldLink RX8 62 "LitmusHall" "tapeSize" "I") (by decide +kernel)) (fun _ h9 => h9) rfl dX8_feedWord_32 ?_
  refine lv_iconst (v := 1) hx hb dX8_feedWord_35 (by decide) ?_
  refine lv_iadd hx hb dX8_feedWord_36 ?_
  refine gx_top (y := 10) (by decide +kernel) ?_
  refine va_put (D := D) (ci := 8) (v := .int 10) (ty := .int) (C := RX8) (T := TX8) (N := 12) hx hb hts (fun _ h => List.mem_cons_of_mem _ (List.mem_append_right _ h)) tyX8 tyX8_ok nmX8 hown hK hP hD hS 0 rfl rfl 1 (by decide) (hts (.fieldLink RX8 62 "LitmusHall" "tapeSize" "I") (by decide +kernel)) (fun _ h9 => h9) rfl (by decide +kernel) rfl rfl (Nat.le_of_ble_eq_true rfl) dX8_feedWord_37 (fun H locs hP hD hS => ?_)
  have hP : va_P D vwCl [(h0, .inr (8, [.ref a0, .int 10, v2, v3, v4, v5, v6, v7, v8, v9, v10, v11])), (a0, .inl (cB, 4000, .inl (upd (upd f (Int32.toNatClampNeg 8) (vp_nar .byte ((w >>> ((24 : Int32) &&& 31)).toInt8.toInt32))) (Int32.toNatClampNeg 9) (vp_nar .byte ((w >>> ((16 : Int32) &&& 31)).toInt8.toInt32)))))] H := hP
  have hD : va_D A [(h0, .inr (8, [.ref a0, .int 10, v2, v3, v4, v5, v6, v7, v8, v9, v10, v11])), (a0, .inl (cB, 4000, .inl (upd (upd f (Int32.toNatClampNeg 8) (vp_nar .byte ((w >>> ((24 : Int32) &&& 31)).toInt8.toInt32))) (Int32.toNatClampNeg 9) (vp_nar .byte ((w >>> ((16 : Int32) &&& 31)).toInt8.toInt32)))))] := hD
  refine lv_iinc (v := 8) (lv' := [(2, .int 8), (0, .ref h0), (1, .int w)]) hx hb dX8_feedWord_40 hl (k := 0) rfl (by decide +kernel) (by decide) rfl (fun ls hl => ?_)
  refine lv_goto (tgt := 3) hx hb dX8_feedWord_43 (by decide) ?_
  refine lv_iload_n hx hb dX8_feedWord_3 rfl (lv_at hl 0 rfl) ?_
  refine lv_if_lt (tgt := 46) hx hb dX8_feedWord_4 (by decide) (fun c9 => absurd c9 (by decide)) (fun _ => ?_)
  refine lv_aload_n hx hb dX8_feedWord_7 rfl (lv_at hl 1 rfl) ?_
  refine va_get (D := D) (ci := 8) (v := .int 10) (C := RX8) (T := TX8) (N := 12) hx hb hts (fun _ h => List.mem_cons_of_mem _ (List.mem_append_right _ h)) hown hK hP 0 rfl rfl 1 (by decide) (hts (.fieldLink RX8 62 "LitmusHall" "tapeSize" "I") (by decide +kernel)) (fun _ h9 => h9) rfl dX8_feedWord_8 ?_
  refine lv_sipush (v := 4000) hx hb dX8_feedWord_11 (by decide) ?_
  refine lv_icmp_ge (tgt := 46) hx hb dX8_feedWord_14 (by decide) (fun c9 => absurd c9 (by decide)) (fun _ => ?_)
  refine lv_aload_n hx hb dX8_feedWord_17 rfl (lv_at hl 1 rfl) ?_
  refine va_get (D := D) (ci := 8) (v := .ref a0) (C := RX8) (T := TX8) (N := 12) hx hb hts (fun _ h => List.mem_cons_of_mem _ (List.mem_append_right _ h)) hown hK hP 0 rfl rfl 0 (by decide) (hts (.fieldLink RX8 9 "LitmusHall" "tape" "[B") (by decide +kernel)) (fun _ h9 => h9) rfl dX8_feedWord_18 ?_
  refine lv_aload_n hx hb dX8_feedWord_21 rfl (lv_at hl 1 rfl) ?_
  refine va_get (D := D) (ci := 8) (v := .int 10) (C := RX8) (T := TX8) (N := 12) hx hb hts (fun _ h => List.mem_cons_of_mem _ (List.mem_append_right _ h)) hown hK hP 0 rfl rfl 1 (by decide) (hts (.fieldLink RX8 62 "LitmusHall" "tapeSize" "I") (by decide +kernel)) (fun _ h9 => h9) rfl dX8_feedWord_22 ?_
  refine lv_iload_n hx hb dX8_feedWord_25 rfl (lv_at hl 2 rfl) ?_
  refine lv_iload_n hx hb dX8_feedWord_26 rfl (lv_at hl 0 rfl) ?_
  refine lv_ishr hx hb dX8_feedWord_27 ?_
  refine lv_i2b (v := (w >>> ((8 : Int32) &&& 31)).toInt8.toInt32) hx hb dX8_feedWord_28 rfl ?_
  refine va_bast hx hb hK hP hD hS 1 1 rfl rfl (by unfold vp_in; decide +kernel) dX8_feedWord_29 (fun H locs hP hD hS => ?_)
  have hP : va_P D vwCl [(h0, .inr (8, [.ref a0, .int 10, v2, v3, v4, v5, v6, v7, v8, v9, v10, v11])), (a0, .inl (cB, 4000, .inl (upd (upd (upd f (Int32.toNatClampNeg 8) (vp_nar .byte ((w >>> ((24 : Int32) &&& 31)).toInt8.toInt32))) (Int32.toNatClampNeg 9) (vp_nar .byte ((w >>> ((16 : Int32) &&& 31)).toInt8.toInt32))) (Int32.toNatClampNeg 10) (vp_nar .byte ((w >>> ((8 : Int32) &&& 31)).toInt8.toInt32)))))] H := hP
  have hD : va_D A [(h0, .inr (8, [.ref a0, .int 10, v2, v3, v4, v5, v6, v7, v8, v9, v10, v11])), (a0, .inl (cB, 4000, .inl (upd (upd (upd f (Int32.toNatClampNeg 8) (vp_nar .byte ((w >>> ((24 : Int32) &&& 31)).toInt8.toInt32))) (Int32.toNatClampNeg 9) (vp_nar .byte ((w >>> ((16 : Int32) &&& 31)).toInt8.toInt32))) (Int32.toNatClampNeg 10) (vp_nar .byte ((w >>> ((8 : Int32) &&& 31)).toInt8.toInt32)))))] := hD
  refine lv_aload_n hx hb dX8_feedWord_30 rfl (lv_at hl 1 rfl) ?_
  refine lv_dup hx hb dX8_feedWord_31 rfl ?_
  refine va_get (D := D) (ci := 8) (v := .int 10) (C := RX8) (T := TX8) (N := 12) hx hb hts (fun _ h => List.mem_cons_of_mem _ (List.mem_append_right _ h)) hown hK hP 0 rfl rfl 1 (by decide) (hts (.fieldLink RX8 62 "LitmusHall" "tapeSize" "I") (by decide +kernel)) (fun _ h9 => h9) rfl dX8_feedWord_32 ?_
  refine lv_iconst (v := 1) hx hb dX8_feedWord_35 (by decide) ?_
  refine lv_iadd hx hb dX8_feedWord_36 ?_
  refine gx_top (y := 11) (by decide +kernel) ?_
  refine va_put (D := D) (ci := 8) (v := .int 11) (ty := .int) (C := RX8) (T := TX8) (N := 12) hx hb hts (fun _ h => List.mem_cons_of_mem _ (List.mem_append_right _ h)) tyX8 tyX8_ok nmX8 hown hK hP hD hS 0 rfl rfl 1 (by decide) (hts (.fieldLink RX8 62 "LitmusHall" "tapeSize" "I") (by decide +kernel)) (fun _ h9 => h9) rfl (by decide +kernel) rfl rfl (Nat.le_of_ble_eq_true rfl) dX8_feedWord_37 (fun H locs hP hD hS => ?_)
  have hP : va_P D vwCl [(h0, .inr (8, [.ref a0, .int 11, v2, v3, v4, v5, v6, v7, v8, v9, v10, v11])), (a0, .inl (cB, 4000, .inl (upd (upd (upd f (Int32.toNatClampNeg 8) (vp_nar .byte ((w >>> ((24 : Int32) &&& 31)).toInt8.toInt32))) (Int32.toNatClampNeg 9) (vp_nar .byte ((w >>> ((16 : Int32) &&& 31)).toInt8.toInt32))) (Int32.toNatClampNeg 10) (vp_nar .byte ((w >>> ((8 : Int32) &&& 31)).toInt8.toInt32)))))] H := hP
  have hD : va_D A [(h0, .inr (8, [.ref a0, .int 11, v2, v3, v4, v5, v6, v7, v8, v9, v10, v11])), (a0, .inl (cB, 4000, .inl (upd (upd (upd f (Int32.toNatClampNeg 8) (vp_nar .byte ((w >>> ((24 : Int32) &&& 31)).toInt8.toInt32))) (Int32.toNatClampNeg 9) (vp_nar .byte ((w >>> ((16 : Int32) &&& 31)).toInt8.toInt32))) (Int32.toNatClampNeg 10) (vp_nar .byte ((w >>> ((8 : Int32) &&& 31)).toInt8.toInt32)))))] := hD
  refine lv_iinc (v := 0) (lv' := [(2, .int 0), (0, .ref h0), (1, .int w)]) hx hb dX8_feedWord_40 hl (k := 0) rfl (by decide +kernel) (by decide) rfl (fun ls hl => ?_)
  refine lv_goto (tgt := 3) hx hb dX8_feedWord_43 (by decide) ?_
  refine lv_iload_n hx hb dX8_feedWord_3 rfl (lv_at hl 0 rfl) ?_
  refine lv_if_lt (tgt := 46) hx hb dX8_feedWord_4 (by decide) (fun c9 => absurd c9 (by decide)) (fun _ => ?_)
  refine lv_aload_n hx hb dX8_feedWord_7 rfl (lv_at hl 1 rfl) ?_
  refine va_get (D := D) (ci := 8) (v := .int 11) (C := RX8) (T := TX8) (N := 12) hx hb hts (fun _ h => List.mem_cons_of_mem _ (List.mem_append_right _ h)) hown hK hP 0 rfl rfl 1 (by decide) (hts (.fieldLink RX8 62 "LitmusHall" "tapeSize" "I") (by decide +kernel)) (fun _ h9 => h9) rfl dX8_feedWord_8 ?_
  refine lv_sipush (v := 4000) hx hb dX8_feedWord_11 (by decide) ?_
  refine lv_icmp_ge (tgt := 46) hx hb dX8_feedWord_14 (by decide) (fun c9 => absurd c9 (by decide)) (fun _ => ?_)
  refine lv_aload_n hx hb dX8_feedWord_17 rfl (lv_at hl 1 rfl) ?_
  refine va_get (D := D) (ci := 8) (v := .ref a0) (C := RX8) (T := TX8) (N := 12) hx hb hts (fun _ h => List.mem_cons_of_mem _ (List.mem_append_right _ h)) hown hK hP 0 rfl rfl 0 (by decide) (hts (.fieldLink RX8 9 "LitmusHall" "tape" "[B") (by decide +kernel)) (fun _ h9 => h9) rfl dX8_feedWord_18 ?_
  refine lv_aload_n hx hb dX8_feedWord_21 rfl (lv_at hl 1 rfl) ?_
  refine va_get (D := D) (ci := 8) (v := .int 11) (C := RX8) (T := TX8) (N := 12) hx hb hts (fun _ h => List.mem_cons_of_mem _ (List.mem_append_right _ h)) hown hK hP 0 rfl rfl 1 (by decide) (hts (.fieldLink RX8 62 "LitmusHall" "tapeSize" "I") (by decide +kernel)) (fun _ h9 => h9) rfl dX8_feedWord_22 ?_
  refine lv_iload_n hx hb dX8_feedWord_25 rfl (lv_at hl 2 rfl) ?_
  refine lv_iload_n hx hb dX8_feedWord_26 rfl (lv_at hl 0 rfl) ?_
  refine lv_ishr hx hb dX8_feedWord_27 ?_
  refine lv_i2b (v := (w >>> ((0 : Int32) &&& 31)).toInt8.toInt32) hx hb dX8_feedWord_28 rfl ?_
  refine va_bast hx hb hK hP hD hS 1 1 rfl rfl (by unfold vp_in; decide +kernel) dX8_feedWord_29 (fun H locs hP hD hS => ?_)
  have hP : va_P D vwCl [(h0, .inr (8, [.ref a0, .int 11, v2, v3, v4, v5, v6, v7, v8, v9, v10, v11])), (a0, .inl (cB, 4000, .inl (upd (upd (upd (upd f (Int32.toNatClampNeg 8) (vp_nar .byte ((w >>> ((24 : Int32) &&& 31)).toInt8.toInt32))) (Int32.toNatClampNeg 9) (vp_nar .byte ((w >>> ((16 : Int32) &&& 31)).toInt8.toInt32))) (Int32.toNatClampNeg 10) (vp_nar .byte ((w >>> ((8 : Int32) &&& 31)).toInt8.toInt32))) (Int32.toNatClampNeg 11) (vp_nar .byte ((w >>> ((0 : Int32) &&& 31)).toInt8.toInt32)))))] H := hP
  have hD : va_D A [(h0, .inr (8, [.ref a0, .int 11, v2, v3, v4, v5, v6, v7, v8, v9, v10, v11])), (a0, .inl (cB, 4000, .inl (upd (upd (upd (upd f (Int32.toNatClampNeg 8) (vp_nar .byte ((w >>> ((24 : Int32) &&& 31)).toInt8.toInt32))) (Int32.toNatClampNeg 9) (vp_nar .byte ((w >>> ((16 : Int32) &&& 31)).toInt8.toInt32))) (Int32.toNatClampNeg 10) (vp_nar .byte ((w >>> ((8 : Int32) &&& 31)).toInt8.toInt32))) (Int32.toNatClampNeg 11) (vp_nar .byte ((w >>> ((0 : Int32) &&& 31)).toInt8.toInt32)))))] := hD
  refine lv_aload_n hx hb dX8_feedWord_30 rfl (lv_at hl 1 rfl) ?_
  refine lv_dup hx hb dX8_feedWord_31 rfl ?_
  refine va_get (D := D) (ci := 8) (v := .int 11) (C := RX8) (T := TX8) (N := 12) hx hb hts (fun _ h => List.mem_cons_of_mem _ (List.mem_append_right _ h)) hown hK hP 0 rfl rfl 1 (by decide) (hts (.fieldLink RX8 62 "LitmusHall" "tapeSize" "I") (by decide +kernel)) (fun _ h9 => h9) rfl dX8_feedWord_32 ?_
  refine lv_iconst (v := 1) hx hb dX8_feedWord_35 (by decide) ?_
  refine lv_iadd hx hb dX8_feedWord_36 ?_
  refine gx_top (y := 12) (by decide +kernel) ?_
  refine va_put (D := D) (ci := 8) (v := .int 12) (ty := .int) (C := RX8) (T := TX8) (N := 12) hx hb hts (fun _ h => List.mem_cons_of_mem _ (List.mem_append_right _ h)) tyX8 tyX8_ok nmX8 hown hK hP hD hS 0 rfl rfl 1 (by decide) (hts (.fieldLink RX8 62 "LitmusHall" "tapeSize" "I") (by decide +kernel)) (fun _ h9 => h9) rfl (by decide +kernel) rfl rfl (Nat.le_of_ble_eq_true rfl) dX8_feedWord_37 (fun H locs hP hD hS => ?_)
  have hP : va_P D vwCl [(h0, .inr (8, [.ref a0, .int 12, v2, v3, v4, v5, v6, v7, v8, v9, v10, v11])), (a0, .inl (cB, 4000, .inl (upd (upd (upd (upd f (Int32.toNatClampNeg 8) (vp_nar .byte ((w >>> ((24 : Int32) &&& 31)).toInt8.toInt32))) (Int32.toNatClampNeg 9) (vp_nar .byte ((w >>> ((16 : Int32) &&& 31)).toInt8.toInt32))) (Int32.toNatClampNeg 10) (vp_nar .byte ((w >>> ((8 : Int32) &&& 31)).toInt8.toInt32))) (Int32.toNatClampNeg 11) (vp_nar .byte ((w >>> ((0 : Int32) &&& 31)).toInt8.toInt32)))))] H := hP
  have hD : va_D A [(h0, .inr (8, [.ref a0, .int 12, v2, v3, v4, v5, v6, v7, v8, v9, v10, v11])), (a0, .inl (cB, 4000, .inl (upd (upd (upd (upd f (Int32.toNatClampNeg 8) (vp_nar .byte ((w >>> ((24 : Int32) &&& 31)).toInt8.toInt32))) (Int32.toNatClampNeg 9) (vp_nar .byte ((w >>> ((16 : Int32) &&& 31)).toInt8.toInt32))) (Int32.toNatClampNeg 10) (vp_nar .byte ((w >>> ((8 : Int32) &&& 31)).toInt8.toInt32))) (Int32.toNatClampNeg 11) (vp_nar .byte ((w >>> ((0 : Int32) &&& 31)).toInt8.toInt32)))))] := hD
  refine lv_iinc (v := (-8)) (lv' := [(2, .int (-8)), (0, .ref h0), (1, .int w)]) hx hb dX8_feedWord_40 hl (k := 0) rfl (by decide +kernel) (by decide) rfl (fun ls hl => ?_)
  refine lv_goto (tgt := 3) hx hb dX8_feedWord_43 (by decide) ?_
  refine lv_iload_n hx hb dX8_feedWord_3 rfl (lv_at hl 0 rfl) ?_
  refine lv_if_lt (tgt := 46) hx hb dX8_feedWord_4 (by decide) (fun _ => ?_) (fun c9 => absurd (by decide) c9)
  exact gx_vret hx hb hr hlk hK hP hD hS (Nat.le_of_ble_eq_true rfl) (Nat.le_of_ble_eq_true rfl) dX8_feedWord_46 rfl
def wsP_c_X8_feedWord_12 : List Cond := .code yX8_feedWord cX8_feedWord 3 none :: ([.fieldLink RX8 62 "LitmusHall" "tapeSize" "I", .fieldLink RX8 9 "LitmusHall" "tape" "[B"] ++ wsX80)
set_option maxHeartbeats 4000000 in
set_option maxRecDepth 100000 in
theorem c_X8_feedWord_12 (l : Launch) (D : va_G) (cI cB cZ : ClassId) (h0 : Nat) (a0 : Nat) (f : Nat → Int32) (v2 : Value) (v3 : Value) (v4 : Value) (v5 : Value) (v6 : Value) (v7 : Value) (v8 : Value) (v9 : Value) (v10 : Value) (v11 : Value) (w : Int32)  : gMv l yX8_feedWord wsP_c_X8_feedWord_12 ({ frames := 0, cells := 0, slots := 0, locals := 0 }) D cI cB cZ [] [.ref h0, .int w] [(h0, .inr (8, [.ref a0, .int 12, v2, v3, v4, v5, v6, v7, v8, v9, v10, v11])), (a0, .inl (cB, 4000, .inl f))] (fun w9 => w9 = [(h0, .inr (8, [.ref a0, .int 16, v2, v3, v4, v5, v6, v7, v8, v9, v10, v11])), (a0, .inl (cB, 4000, .inl (upd (upd (upd (upd f (Int32.toNatClampNeg 12) (vp_nar .byte ((w >>> ((24 : Int32) &&& 31)).toInt8.toInt32))) (Int32.toNatClampNeg 13) (vp_nar .byte ((w >>> ((16 : Int32) &&& 31)).toInt8.toInt32))) (Int32.toNatClampNeg 14) (vp_nar .byte ((w >>> ((8 : Int32) &&& 31)).toInt8.toInt32))) (Int32.toNatClampNeg 15) (vp_nar .byte ((w >>> ((0 : Int32) &&& 31)).toInt8.toInt32)))))]) := by
  refine gMv.of (cc := cX8_feedWord) (maxL := 3) (ret := none) (by decide) rfl (Nat.le_of_ble_eq_true rfl) (fun p e s m below meth c A ls hx hb hr hlk hml hts hown hin hA hP hK hD hS hN hl => ?_)
  have hown : s.vm.findClass RX8 = some m.cls := hown
  have hl : lv_has ls 3 [(0, .ref h0), (1, .int w)] := hl
  refine lv_bipush (v := 24) hx hb dX8_feedWord_0 (by decide) ?_
  refine lv_istore_n (lv' := [(2, .int 24), (0, .ref h0), (1, .int w)]) hx hb dX8_feedWord_2 rfl hl (by decide) rfl (fun ls hl => ?_)
  refine lv_iload_n hx hb dX8_feedWord_3 rfl (lv_at hl 0 rfl) ?_
  refine lv_if_lt (tgt := 46) hx hb dX8_feedWord_4 (by decide) (fun c9 => absurd c9 (by decide)) (fun _ => ?_)
  refine lv_aload_n hx hb dX8_feedWord_7 rfl (lv_at hl 1 rfl) ?_
  refine va_get (D := D) (ci := 8) (v := .int 12) (C := RX8) (T := TX8) (N := 12) hx hb hts (fun _ h => List.mem_cons_of_mem _ (List.mem_append_right _ h)) hown hK hP 0 rfl rfl 1 (by decide) (hts (.fieldLink RX8 62 "LitmusHall" "tapeSize" "I") (by decide +kernel)) (fun _ h9 => h9) rfl dX8_feedWord_8 ?_
  refine lv_sipush (v := 4000) hx hb dX8_feedWord_11 (by decide) ?_
  refine lv_icmp_ge (tgt := 46) hx hb dX8_feedWord_14 (by decide) (fun c9 => absurd c9 (by decide)) (fun _ => ?_)
  refine lv_aload_n hx hb dX8_feedWord_17 rfl (lv_at hl 1 rfl) ?_
  refine va_get (D := D) (ci := 8) (v := .ref a0) (C := RX8) (T := TX8) (N := 12) hx hb hts (fun _ h => List.mem_cons_of_mem _ (List.mem_append_right _ h)) hown hK hP 0 rfl rfl 0 (by decide) (hts (.fieldLink RX8 9 "LitmusHall" "tape" "[B") (by decide +kernel)) (fun _ h9 => h9) rfl dX8_feedWord_18 ?_
  refine lv_aload_n hx hb dX8_feedWord_21 rfl (lv_at hl 1 rfl) ?_
  refine va_get (D := D) (ci := 8) (v := .int 12) (C := RX8) (T := TX8) (N := 12) hx hb hts (fun _ h => List.mem_cons_of_mem _ (List.mem_append_right _ h)) hown hK hP 0 rfl rfl 1 (by decide) (hts (.fieldLink RX8 62 "LitmusHall" "tapeSize" "I") (by decide +kernel)) (fun _ h9 => h9) rfl dX8_feedWord_22 ?_
  refine lv_iload_n hx hb dX8_feedWord_25 rfl (lv_at hl 2 rfl) ?_
  refine lv_iload_n hx hb dX8_feedWord_26 rfl (lv_at hl 0 rfl) ?_
  refine lv_ishr hx hb dX8_feedWord_27 ?_
  refine lv_i2b (v := (w >>> ((24 : Int32) &&& 31)).toInt8.toInt32) hx hb dX8_feedWord_28 rfl ?_
  refine va_bast hx hb hK hP hD hS 1 1 rfl rfl (by unfold vp_in; decide +kernel) dX8_feedWord_29 (fun H locs hP hD hS => ?_)
  have hP : va_P D vwCl [(h0, .inr (8, [.ref a0, .int 12, v2, v3, v4, v5, v6, v7, v8, v9, v10, v11])), (a0, .inl (cB, 4000, .inl (upd f (Int32.toNatClampNeg 12) (vp_nar .byte ((w >>> ((24 : Int32) &&& 31)).toInt8.toInt32)))))] H := hP
  have hD : va_D A [(h0, .inr (8, [.ref a0, .int 12, v2, v3, v4, v5, v6, v7, v8, v9, v10, v11])), (a0, .inl (cB, 4000, .inl (upd f (Int32.toNatClampNeg 12) (vp_nar .byte ((w >>> ((24 : Int32) &&& 31)).toInt8.toInt32)))))] := hD
  refine lv_aload_n hx hb dX8_feedWord_30 rfl (lv_at hl 1 rfl) ?_
  refine lv_dup hx hb dX8_feedWord_31 rfl ?_
  refine va_get (D := D) (ci := 8) (v := .int 12) (C := RX8) (T := TX8) (N := 12) hx hb hts (fun _ h => List.mem_cons_of_mem _ (List.mem_append_right _ h)) hown hK hP 0 rfl rfl 1 (by decide) (hts (.fieldLink RX8 62 "LitmusHall" "tapeSize" "I") (by decide +kernel)) (fun _ h9 => h9) rfl dX8_feedWord_32 ?_
  refine lv_iconst (v := 1) hx hb dX8_feedWord_35 (by decide) ?_
  refine lv_iadd hx hb dX8_feedWord_36 ?_
  refine gx_top (y := 13) (by decide +kernel) ?_
  refine va_put (D := D) (ci := 8) (v := .int 13) (ty := .int) (C := RX8) (T := TX8) (N := 12) hx hb hts (fun _ h => List.mem_cons_of_mem _ (List.mem_append_right _ h)) tyX8 tyX8_ok nmX8 hown hK hP hD hS 0 rfl rfl 1 (by decide) (hts (.fieldLink RX8 62 "LitmusHall" "tapeSize" "I") (by decide +kernel)) (fun _ h9 => h9) rfl (by decide +kernel) rfl rfl (Nat.le_of_ble_eq_true rfl) dX8_feedWord_37 (fun H locs hP hD hS => ?_)
  have hP : va_P D vwCl [(h0, .inr (8, [.ref a0, .int 13, v2, v3, v4, v5, v6, v7, v8, v9, v10, v11])), (a0, .inl (cB, 4000, .inl (upd f (Int32.toNatClampNeg 12) (vp_nar .byte ((w >>> ((24 : Int32) &&& 31)).toInt8.toInt32)))))] H := hP
  have hD : va_D A [(h0, .inr (8, [.ref a0, .int 13, v2, v3, v4, v5, v6, v7, v8, v9, v10, v11])), (a0, .inl (cB, 4000, .inl (upd f (Int32.toNatClampNeg 12) (vp_nar .byte ((w >>> ((24 : Int32) &&& 31)).toInt8.toInt32)))))] := hD
  refine lv_iinc (v := 16) (lv' := [(2, .int 16), (0, .ref h0), (1, .int w)]) hx hb dX8_feedWord_40 hl (k := 0) rfl (by decide +kernel) (by decide) rfl (fun ls hl => ?_)
  refine lv_goto (tgt := 3) hx hb dX8_feedWord_43 (by decide) ?_
  refine lv_iload_n hx hb dX8_feedWord_3 rfl (lv_at hl 0 rfl) ?_
  refine lv_if_lt (tgt := 46) hx hb dX8_feedWord_4 (by decide) (fun c9 => absurd c9 (by decide)) (fun _ => ?_)
  refine lv_aload_n hx hb dX8_feedWord_7 rfl (lv_at hl 1 rfl) ?_
  refine va_get (D := D) (ci := 8) (v := .int 13) (C := RX8) (T := TX8) (N := 12) hx hb hts (fun _ h => List.mem_cons_of_mem _ (List.mem_append_right _ h)) hown hK hP 0 rfl rfl 1 (by decide) (hts (.fieldLink RX8 62 "LitmusHall" "tapeSize" "I") (by decide +kernel)) (fun _ h9 => h9) rfl dX8_feedWord_8 ?_
  refine lv_sipush (v := 4000) hx hb dX8_feedWord_11 (by decide) ?_
  refine lv_icmp_ge (tgt := 46) hx hb dX8_feedWord_14 (by decide) (fun c9 => absurd c9 (by decide)) (fun _ => ?_)
  refine lv_aload_n hx hb dX8_feedWord_17 rfl (lv_at hl 1 rfl) ?_
  refine va_get (D := D) (ci := 8) (v := .ref a0) (C := RX8) (T := TX8) (N := 12) hx hb hts (fun _ h => List.mem_cons_of_mem _ (List.mem_append_right _ h)) hown hK hP 0 rfl rfl 0 (by decide) (hts (.fieldLink RX8 9 "LitmusHall" "tape" "[B") (by decide +kernel)) (fun _ h9 => h9) rfl dX8_feedWord_18 ?_
  refine lv_aload_n hx hb dX8_feedWord_21 rfl (lv_at hl 1 rfl) ?_
  refine va_get (D := D) (ci := 8) (v := .int 13) (C := RX8) (T := TX8) (N := 12) hx hb hts (fun _ h => List.mem_cons_of_mem _ (List.mem_append_right _ h)) hown hK hP 0 rfl rfl 1 (by decide) (hts (.fieldLink RX8 62 "LitmusHall" "tapeSize" "I") (by decide +kernel)) (fun _ h9 => h9) rfl dX8_feedWord_22 ?_
  refine lv_iload_n hx hb dX8_feedWord_25 rfl (lv_at hl 2 rfl) ?_
  refine lv_iload_n hx hb dX8_feedWord_26 rfl (lv_at hl 0 rfl) ?_
  refine lv_ishr hx hb dX8_feedWord_27 ?_
  refine lv_i2b (v := (w >>> ((16 : Int32) &&& 31)).toInt8.toInt32) hx hb dX8_feedWord_28 rfl ?_
  refine va_bast hx hb hK hP hD hS 1 1 rfl rfl (by unfold vp_in; decide +kernel) dX8_feedWord_29 (fun H locs hP hD hS => ?_)
  have hP : va_P D vwCl [(h0, .inr (8, [.ref a0, .int 13, v2, v3, v4, v5, v6, v7, v8, v9, v10, v11])), (a0, .inl (cB, 4000, .inl (upd (upd f (Int32.toNatClampNeg 12) (vp_nar .byte ((w >>> ((24 : Int32) &&& 31)).toInt8.toInt32))) (Int32.toNatClampNeg 13) (vp_nar .byte ((w >>> ((16 : Int32) &&& 31)).toInt8.toInt32)))))] H := hP
  have hD : va_D A [(h0, .inr (8, [.ref a0, .int 13, v2, v3, v4, v5, v6, v7, v8, v9, v10, v11])), (a0, .inl (cB, 4000, .inl (upd (upd f (Int32.toNatClampNeg 12) (vp_nar .byte ((w >>> ((24 : Int32) &&& 31)).toInt8.toInt32))) (Int32.toNatClampNeg 13) (vp_nar .byte ((w >>> ((16 : Int32) &&& 31)).toInt8.toInt32)))))] := hD
  refine lv_aload_n hx hb dX8_feedWord_30 rfl (lv_at hl 1 rfl) ?_
  refine lv_dup hx hb dX8_feedWord_31 rfl ?_
  refine va_get (D := D) (ci := 8) (v := .int 13) (C := RX8) (T := TX8) (N := 12) hx hb hts (fun _ h => List.mem_cons_of_mem _ (List.mem_append_right _ h)) hown hK hP 0 rfl rfl 1 (by decide) (hts (.fieldLink RX8 62 "LitmusHall" "tapeSize" "I") (by decide +kernel)) (fun _ h9 => h9) rfl dX8_feedWord_32 ?_
  refine lv_iconst (v := 1) hx hb dX8_feedWord_35 (by decide) ?_
  refine lv_iadd hx hb dX8_feedWord_36 ?_
  refine gx_top (y := 14) (by decide +kernel) ?_
  refine va_put (D := D) (ci := 8) (v := .int 14) (ty := .int) (C := RX8) (T := TX8) (N := 12) hx hb hts (fun _ h => List.mem_cons_of_mem _ (List.mem_append_right _ h)) tyX8 tyX8_ok nmX8 hown hK hP hD hS 0 rfl rfl 1 (by decide) (hts (.fieldLink RX8 62 "LitmusHall" "tapeSize" "I") (by decide +kernel)) (fun _ h9 => h9) rfl (by decide +kernel) rfl rfl (Nat.le_of_ble_eq_true rfl) dX8_feedWord_37 (fun H locs hP hD hS => ?_)
  have hP : va_P D vwCl [(h0, .inr (8, [.ref a0, .int 14, v2, v3, v4, v5, v6, v7, v8, v9, v10, v11])), (a0, .inl (cB, 4000, .inl (upd (upd f (Int32.toNatClampNeg 12) (vp_nar .byte ((w >>> ((24 : Int32) &&& 31)).toInt8.toInt32))) (Int32.toNatClampNeg 13) (vp_nar .byte ((w >>> ((16 : Int32) &&& 31)).toInt8.toInt32)))))] H := hP
  have hD : va_D A [(h0, .inr (8, [.ref a0, .int 14, v2, v3, v4, v5, v6, v7, v8, v9, v10, v11])), (a0, .inl (cB, 4000, .inl (upd (upd f (Int32.toNatClampNeg 12) (vp_nar .byte ((w >>> ((24 : Int32) &&& 31)).toInt8.toInt32))) (Int32.toNatClampNeg 13) (vp_nar .byte ((w >>> ((16 : Int32) &&& 31)).toInt8.toInt32)))))] := hD
  refine lv_iinc (v := 8) (lv' := [(2, .int 8), (0, .ref h0), (1, .int w)]) hx hb dX8_feedWord_40 hl (k := 0) rfl (by decide +kernel) (by decide) rfl (fun ls hl => ?_)
  refine lv_goto (tgt := 3) hx hb dX8_feedWord_43 (by decide) ?_
  refine lv_iload_n hx hb dX8_feedWord_3 rfl (lv_at hl 0 rfl) ?_
  refine lv_if_lt (tgt := 46) hx hb dX8_feedWord_4 (by decide) (fun c9 => absurd c9 (by decide)) (fun _ => ?_)
  refine lv_aload_n hx hb dX8_feedWord_7 rfl (lv_at hl 1 rfl) ?_
  refine va_get (D := D) (ci := 8) (v := .int 14) (C := RX8) (T := TX8) (N := 12) hx hb hts (fun _ h => List.mem_cons_of_mem _ (List.mem_append_right _ h)) hown hK hP 0 rfl rfl 1 (by decide) (hts (.fieldLink RX8 62 "LitmusHall" "tapeSize" "I") (by decide +kernel)) (fun _ h9 => h9) rfl dX8_feedWord_8 ?_
  refine lv_sipush (v := 4000) hx hb dX8_feedWord_11 (by decide) ?_
  refine lv_icmp_ge (tgt := 46) hx hb dX8_feedWord_14 (by decide) (fun c9 => absurd c9 (by decide)) (fun _ => ?_)
  refine lv_aload_n hx hb dX8_feedWord_17 rfl (lv_at hl 1 rfl) ?_
  refine va_get (D := D) (ci := 8) (v := .ref a0) (C := RX8) (T := TX8) (N := 12) hx hb hts (fun _ h => List.mem_cons_of_mem _ (List.mem_append_right _ h)) hown hK hP 0 rfl rfl 0 (by decide) (hts (.fieldLink RX8 9 "LitmusHall" "tape" "[B") (by decide +kernel)) (fun _ h9 => h9) rfl dX8_feedWord_18 ?_
  refine lv_aload_n hx hb dX8_feedWord_21 rfl (lv_at hl 1 rfl) ?_
  refine va_get (D := D) (ci := 8) (v := .int 14) (C := RX8) (T := TX8) (N := 12) hx hb hts (fun _ h => List.mem_cons_of_mem _ (List.mem_append_right _ h)) hown hK hP 0 rfl rfl 1 (by decide) (hts (.fieldLink RX8 62 "LitmusHall" "tapeSize" "I") (by decide +kernel)) (fun _ h9 => h9) rfl dX8_feedWord_22 ?_
  refine lv_iload_n hx hb dX8_feedWord_25 rfl (lv_at hl 2 rfl) ?_
  refine lv_iload_n hx hb dX8_feedWord_26 rfl (lv_at hl 0 rfl) ?_
  refine lv_ishr hx hb dX8_feedWord_27 ?_
  refine lv_i2b (v := (w >>> ((8 : Int32) &&& 31)).toInt8.toInt32) hx hb dX8_feedWord_28 rfl ?_
  refine va_bast hx hb hK hP hD hS 1 1 rfl rfl (by unfold vp_in; decide +kernel) dX8_feedWord_29 (fun H locs hP hD hS => ?_)
  have hP : va_P D vwCl [(h0, .inr (8, [.ref a0, .int 14, v2, v3, v4, v5, v6, v7, v8, v9, v10, v11])), (a0, .inl (cB, 4000, .inl (upd (upd (upd f (Int32.toNatClampNeg 12) (vp_nar .byte ((w >>> ((24 : Int32) &&& 31)).toInt8.toInt32))) (Int32.toNatClampNeg 13) (vp_nar .byte ((w >>> ((16 : Int32) &&& 31)).toInt8.toInt32))) (Int32.toNatClampNeg 14) (vp_nar .byte ((w >>> ((8 : Int32) &&& 31)).toInt8.toInt32)))))] H := hP
  have hD : va_D A [(h0, .inr (8, [.ref a0, .int 14, v2, v3, v4, v5, v6, v7, v8, v9, v10, v11])), (a0, .inl (cB, 4000, .inl (upd (upd (upd f (Int32.toNatClampNeg 12) (vp_nar .byte ((w >>> ((24 : Int32) &&& 31)).toInt8.toInt32))) (Int32.toNatClampNeg 13) (vp_nar .byte ((w >>> ((16 : Int32) &&& 31)).toInt8.toInt32))) (Int32.toNatClampNeg 14) (vp_nar .byte ((w >>> ((8 : Int32) &&& 31)).toInt8.toInt32)))))] := hD
  refine lv_aload_n hx hb dX8_feedWord_30 rfl (lv_at hl 1 rfl) ?_
  refine lv_dup hx hb dX8_feedWord_31 rfl ?_
  refine va_get (D := D) (ci := 8) (v := .int 14) (C := RX8) (T := TX8) (N := 12) hx hb hts (fun _ h => List.mem_cons_of_mem _ (List.mem_append_right _ h)) hown hK hP 0 rfl rfl 1 (by decide) (hts (.fieldLink RX8 62 "LitmusHall" "tapeSize" "I") (by decide +kernel)) (fun _ h9 => h9) rfl dX8_feedWord_32 ?_
  refine lv_iconst (v := 1) hx hb dX8_feedWord_35 (by decide) ?_
  refine lv_iadd hx hb dX8_feedWord_36 ?_
  refine gx_top (y := 15) (by decide +kernel) ?_
  refine va_put (D := D) (ci := 8) (v := .int 15) (ty := .int) (C := RX8) (T := TX8) (N := 12) hx hb hts (fun _ h => List.mem_cons_of_mem _ (List.mem_append_right _ h)) tyX8 tyX8_ok nmX8 hown hK hP hD hS 0 rfl rfl 1 (by decide) (hts (.fieldLink RX8 62 "LitmusHall" "tapeSize" "I") (by decide +kernel)) (fun _ h9 => h9) rfl (by decide +kernel) rfl rfl (Nat.le_of_ble_eq_true rfl) dX8_feedWord_37 (fun H locs hP hD hS => ?_)
  have hP : va_P D vwCl [(h0, .inr (8, [.ref a0, .int 15, v2, v3, v4, v5, v6, v7, v8, v9, v10, v11])), (a0, .inl (cB, 4000, .inl (upd (upd (upd f (Int32.toNatClampNeg 12) (vp_nar .byte ((w >>> ((24 : Int32) &&& 31)).toInt8.toInt32))) (Int32.toNatClampNeg 13) (vp_nar .byte ((w >>> ((16 : Int32) &&& 31)).toInt8.toInt32))) (Int32.toNatClampNeg 14) (vp_nar .byte ((w >>> ((8 : Int32) &&& 31)).toInt8.toInt32)))))] H := hP
  have hD : va_D A [(h0, .inr (8, [.ref a0, .int 15, v2, v3, v4, v5, v6, v7, v8, v9, v10, v11])), (a0, .inl (cB, 4000, .inl (upd (upd (upd f (Int32.toNatClampNeg 12) (vp_nar .byte ((w >>> ((24 : Int32) &&& 31)).toInt8.toInt32))) (Int32.toNatClampNeg 13) (vp_nar .byte ((w >>> ((16 : Int32) &&& 31)).toInt8.toInt32))) (Int32.toNatClampNeg 14) (vp_nar .byte ((w >>> ((8 : Int32) &&& 31)).toInt8.toInt32)))))] := hD
  refine lv_iinc (v := 0) (lv' := [(2, .int 0), (0, .ref h0), (1, .int w)]) hx hb dX8_feedWord_40 hl (k := 0) rfl (by decide +kernel) (by decide) rfl (fun ls hl => ?_)
  refine lv_goto (tgt := 3) hx hb dX8_feedWord_43 (by decide) ?_
  refine lv_iload_n hx hb dX8_feedWord_3 rfl (lv_at hl 0 rfl) ?_
  refine lv_if_lt (tgt := 46) hx hb dX8_feedWord_4 (by decide) (fun c9 => absurd c9 (by decide)) (fun _ => ?_)
  refine lv_aload_n hx hb dX8_feedWord_7 rfl (lv_at hl 1 rfl) ?_
  refine va_get (D := D) (ci := 8) (v := .int 15) (C := RX8) (T := TX8) (N := 12) hx hb hts (fun _ h => List.mem_cons_of_mem _ (List.mem_append_right _ h)) hown hK hP 0 rfl rfl 1 (by decide) (hts (.fieldLink RX8 62 "LitmusHall" "tapeSize" "I") (by decide +kernel)) (fun _ h9 => h9) rfl dX8_feedWord_8 ?_
  refine lv_sipush (v := 4000) hx hb dX8_feedWord_11 (by decide) ?_
  refine lv_icmp_ge (tgt := 46) hx hb dX8_feedWord_14 (by decide) (fun c9 => absurd c9 (by decide)) (fun _ => ?_)
  refine lv_aload_n hx hb dX8_feedWord_17 rfl (lv_at hl 1 rfl) ?_
  refine va_get (D := D) (ci := 8) (v := .ref a0) (C := RX8) (T := TX8) (N := 12) hx hb hts (fun _ h => List.mem_cons_of_mem _ (List.mem_append_right _ h)) hown hK hP 0 rfl rfl 0 (by decide) (hts (.fieldLink RX8 9 "LitmusHall" "tape" "[B") (by decide +kernel)) (fun _ h9 => h9) rfl dX8_feedWord_18 ?_
  refine lv_aload_n hx hb dX8_feedWord_21 rfl (lv_at hl 1 rfl) ?_
  refine va_get (D := D) (ci := 8) (v := .int 15) (C := RX8) (T := TX8) (N := 12) hx hb hts (fun _ h => List.mem_cons_of_mem _ (List.mem_append_right _ h)) hown hK hP 0 rfl rfl 1 (by decide) (hts (.fieldLink RX8 62 "LitmusHall" "tapeSize" "I") (by decide +kernel)) (fun _ h9 => h9) rfl dX8_feedWord_22 ?_
  refine lv_iload_n hx hb dX8_feedWord_25 rfl (lv_at hl 2 rfl) ?_
  refine lv_iload_n hx hb dX8_feedWord_26 rfl (lv_at hl 0 rfl) ?_
  refine lv_ishr hx hb dX8_feedWord_27 ?_
  refine lv_i2b (v := (w >>> ((0 : Int32) &&& 31)).toInt8.toInt32) hx hb dX8_feedWord_28 rfl ?_
  refine va_bast hx hb hK hP hD hS 1 1 rfl rfl (by unfold vp_in; decide +kernel) dX8_feedWord_29 (fun H locs hP hD hS => ?_)
  have hP : va_P D vwCl [(h0, .inr (8, [.ref a0, .int 15, v2, v3, v4, v5, v6, v7, v8, v9, v10, v11])), (a0, .inl (cB, 4000, .inl (upd (upd (upd (upd f (Int32.toNatClampNeg 12) (vp_nar .byte ((w >>> ((24 : Int32) &&& 31)).toInt8.toInt32))) (Int32.toNatClampNeg 13) (vp_nar .byte ((w >>> ((16 : Int32) &&& 31)).toInt8.toInt32))) (Int32.toNatClampNeg 14) (vp_nar .byte ((w >>> ((8 : Int32) &&& 31)).toInt8.toInt32))) (Int32.toNatClampNeg 15) (vp_nar .byte ((w >>> ((0 : Int32) &&& 31)).toInt8.toInt32)))))] H := hP
  have hD : va_D A [(h0, .inr (8, [.ref a0, .int 15, v2, v3, v4, v5, v6, v7, v8, v9, v10, v11])), (a0, .inl (cB, 4000, .inl (upd (upd (upd (upd f (Int32.toNatClampNeg 12) (vp_nar .byte ((w >>> ((24 : Int32) &&& 31)).toInt8.toInt32))) (Int32.toNatClampNeg 13) (vp_nar .byte ((w >>> ((16 : Int32) &&& 31)).toInt8.toInt32))) (Int32.toNatClampNeg 14) (vp_nar .byte ((w >>> ((8 : Int32) &&& 31)).toInt8.toInt32))) (Int32.toNatClampNeg 15) (vp_nar .byte ((w >>> ((0 : Int32) &&& 31)).toInt8.toInt32)))))] := hD
  refine lv_aload_n hx hb dX8_feedWord_30 rfl (lv_at hl 1 rfl) ?_
  refine lv_dup hx hb dX8_feedWord_31 rfl ?_
  refine va_get (D := D) (ci := 8) (v := .int 15) (C := RX8) (T := TX8) (N := 12) hx hb hts (fun _ h => List.mem_cons_of_mem _ (List.mem_append_right _ h)) hown hK hP 0 rfl rfl 1 (by decide) (hts (.fieldLink RX8 62 "LitmusHall" "tapeSize" "I") (by decide +kernel)) (fun _ h9 => h9) rfl dX8_feedWord_32 ?_
  refine lv_iconst (v := 1) hx hb dX8_feedWord_35 (by decide) ?_
  refine lv_iadd hx hb dX8_feedWord_36 ?_
  refine gx_top (y := 16) (by decide +kernel) ?_
  refine va_put (D := D) (ci := 8) (v := .int 16) (ty := .int) (C := RX8) (T := TX8) (N := 12) hx hb hts (fun _ h => List.mem_cons_of_mem _ (List.mem_append_right _ h)) tyX8 tyX8_ok nmX8 hown hK hP hD hS 0 rfl rfl 1 (by decide) (hts (.fieldLink RX8 62 "LitmusHall" "tapeSize" "I") (by decide +kernel)) (fun _ h9 => h9) rfl (by decide +kernel) rfl rfl (Nat.le_of_ble_eq_true rfl) dX8_feedWord_37 (fun H locs hP hD hS => ?_)
  have hP : va_P D vwCl [(h0, .inr (8, [.ref a0, .int 16, v2, v3, v4, v5, v6, v7, v8, v9, v10, v11])), (a0, .inl (cB, 4000, .inl (upd (upd (upd (upd f (Int32.toNatClampNeg 12) (vp_nar .byte ((w >>> ((24 : Int32) &&& 31)).toInt8.toInt32))) (Int32.toNatClampNeg 13) (vp_nar .byte ((w >>> ((16 : Int32) &&& 31)).toInt8.toInt32))) (Int32.toNatClampNeg 14) (vp_nar .byte ((w >>> ((8 : Int32) &&& 31)).toInt8.toInt32))) (Int32.toNatClampNeg 15) (vp_nar .byte ((w >>> ((0 : Int32) &&& 31)).toInt8.toInt32)))))] H := hP
  have hD : va_D A [(h0, .inr (8, [.ref a0, .int 16, v2, v3, v4, v5, v6, v7, v8, v9, v10, v11])), (a0, .inl (cB, 4000, .inl (upd (upd (upd (upd f (Int32.toNatClampNeg 12) (vp_nar .byte ((w >>> ((24 : Int32) &&& 31)).toInt8.toInt32))) (Int32.toNatClampNeg 13) (vp_nar .byte ((w >>> ((16 : Int32) &&& 31)).toInt8.toInt32))) (Int32.toNatClampNeg 14) (vp_nar .byte ((w >>> ((8 : Int32) &&& 31)).toInt8.toInt32))) (Int32.toNatClampNeg 15) (vp_nar .byte ((w >>> ((0 : Int32) &&& 31)).toInt8.toInt32)))))] := hD
  refine lv_iinc (v := (-8)) (lv' := [(2, .int (-8)), (0, .ref h0), (1, .int w)]) hx hb dX8_feedWord_40 hl (k := 0) rfl (by decide +kernel) (by decide) rfl (fun ls hl => ?_)
  refine lv_goto (tgt := 3) hx hb dX8_feedWord_43 (by decide) ?_
  refine lv_iload_n hx hb dX8_feedWord_3 rfl (lv_at hl 0 rfl) ?_
  refine lv_if_lt (tgt := 46) hx hb dX8_feedWord_4 (by decide) (fun _ => ?_) (fun c9 => absurd (by decide) c9)
  exact gx_vret hx hb hr hlk hK hP hD hS (Nat.le_of_ble_eq_true rfl) (Nat.le_of_ble_eq_true rfl) dX8_feedWord_46 rfl
def wsP_c_X8_feedWord_16 : List Cond := .code yX8_feedWord cX8_feedWord 3 none :: ([.fieldLink RX8 62 "LitmusHall" "tapeSize" "I", .fieldLink RX8 9 "LitmusHall" "tape" "[B"] ++ wsX80)
set_option maxHeartbeats 4000000 in
set_option maxRecDepth 100000 in
theorem c_X8_feedWord_16 (l : Launch) (D : va_G) (cI cB cZ : ClassId) (h0 : Nat) (a0 : Nat) (f : Nat → Int32) (v2 : Value) (v3 : Value) (v4 : Value) (v5 : Value) (v6 : Value) (v7 : Value) (v8 : Value) (v9 : Value) (v10 : Value) (v11 : Value) (w : Int32)  : gMv l yX8_feedWord wsP_c_X8_feedWord_16 ({ frames := 0, cells := 0, slots := 0, locals := 0 }) D cI cB cZ [] [.ref h0, .int w] [(h0, .inr (8, [.ref a0, .int 16, v2, v3, v4, v5, v6, v7, v8, v9, v10, v11])), (a0, .inl (cB, 4000, .inl f))] (fun w9 => w9 = [(h0, .inr (8, [.ref a0, .int 20, v2, v3, v4, v5, v6, v7, v8, v9, v10, v11])), (a0, .inl (cB, 4000, .inl (upd (upd (upd (upd f (Int32.toNatClampNeg 16) (vp_nar .byte ((w >>> ((24 : Int32) &&& 31)).toInt8.toInt32))) (Int32.toNatClampNeg 17) (vp_nar .byte ((w >>> ((16 : Int32) &&& 31)).toInt8.toInt32))) (Int32.toNatClampNeg 18) (vp_nar .byte ((w >>> ((8 : Int32) &&& 31)).toInt8.toInt32))) (Int32.toNatClampNeg 19) (vp_nar .byte ((w >>> ((0 : Int32) &&& 31)).toInt8.toInt32)))))]) := by
  refine gMv.of (cc := cX8_feedWord) (maxL := 3) (ret := none) (by decide) rfl (Nat.le_of_ble_eq_true rfl) (fun p e s m below meth c A ls hx hb hr hlk hml hts hown hin hA hP hK hD hS hN hl => ?_)
  have hown : s.vm.findClass RX8 = some m.cls := hown
  have hl : lv_has ls 3 [(0, .ref h0), (1, .int w)] := hl
  refine lv_bipush (v := 24) hx hb dX8_feedWord_0 (by decide) ?_
  refine lv_istore_n (lv' := [(2, .int 24), (0, .ref h0), (1, .int w)]) hx hb dX8_feedWord_2 rfl hl (by decide) rfl (fun ls hl => ?_)
  refine lv_iload_n hx hb dX8_feedWord_3 rfl (lv_at hl 0 rfl) ?_
  refine lv_if_lt (tgt := 46) hx hb dX8_feedWord_4 (by decide) (fun c9 => absurd c9 (by decide)) (fun _ => ?_)
  refine lv_aload_n hx hb dX8_feedWord_7 rfl (lv_at hl 1 rfl) ?_
  refine va_get (D := D) (ci := 8) (v := .int 16) (C := RX8) (T := TX8) (N := 12) hx hb hts (fun _ h => List.mem_cons_of_mem _ (List.mem_append_right _ h)) hown hK hP 0 rfl rfl 1 (by decide) (hts (.fieldLink RX8 62 "LitmusHall" "tapeSize" "I") (by decide +kernel)) (fun _ h9 => h9) rfl dX8_feedWord_8 ?_
  refine lv_sipush (v := 4000) hx hb dX8_feedWord_11 (by decide) ?_
  refine lv_icmp_ge (tgt := 46) hx hb dX8_feedWord_14 (by decide) (fun c9 => absurd c9 (by decide)) (fun _ => ?_)
  refine lv_aload_n hx hb dX8_feedWord_17 rfl (lv_at hl 1 rfl) ?_
  refine va_get (D := D) (ci := 8) (v := .ref a0) (C := RX8) (T := TX8) (N := 12) hx hb hts (fun _ h => List.mem_cons_of_mem _ (List.mem_append_right _ h)) hown hK hP 0 rfl rfl 0 (by decide) (hts (.fieldLink RX8 9 "LitmusHall" "tape" "[B") (by decide +kernel)) (fun _ h9 => h9) rfl dX8_feedWord_18 ?_
  refine lv_aload_n hx hb dX8_feedWord_21 rfl (lv_at hl 1 rfl) ?_
  refine va_get (D := D) (ci := 8) (v := .int 16) (C := RX8) (T := TX8) (N := 12) hx hb hts (fun _ h => List.mem_cons_of_mem _ (List.mem_append_right _ h)) hown hK hP 0 rfl rfl 1 (by decide) (hts (.fieldLink RX8 62 "LitmusHall" "tapeSize" "I") (by decide +kernel)) (fun _ h9 => h9) rfl dX8_feedWord_22 ?_
  refine lv_iload_n hx hb dX8_feedWord_25 rfl (lv_at hl 2 rfl) ?_
  refine lv_iload_n hx hb dX8_feedWord_26 rfl (lv_at hl 0 rfl) ?_
  refine lv_ishr hx hb dX8_feedWord_27 ?_
  refine lv_i2b (v := (w >>> ((24 : Int32) &&& 31)).toInt8.toInt32) hx hb dX8_feedWord_28 rfl ?_
  refine va_bast hx hb hK hP hD hS 1 1 rfl rfl (by unfold vp_in; decide +kernel) dX8_feedWord_29 (fun H locs hP hD hS => ?_)
  have hP : va_P D vwCl [(h0, .inr (8, [.ref a0, .int 16, v2, v3, v4, v5, v6, v7, v8, v9, v10, v11])), (a0, .inl (cB, 4000, .inl (upd f (Int32.toNatClampNeg 16) (vp_nar .byte ((w >>> ((24 : Int32) &&& 31)).toInt8.toInt32)))))] H := hP
  have hD : va_D A [(h0, .inr (8, [.ref a0, .int 16, v2, v3, v4, v5, v6, v7, v8, v9, v10, v11])), (a0, .inl (cB, 4000, .inl (upd f (Int32.toNatClampNeg 16) (vp_nar .byte ((w >>> ((24 : Int32) &&& 31)).toInt8.toInt32)))))] := hD
  refine lv_aload_n hx hb dX8_feedWord_30 rfl (lv_at hl 1 rfl) ?_
  refine lv_dup hx hb dX8_feedWord_31 rfl ?_
  refine va_get (D := D) (ci := 8) (v := .int 16) (C := RX8) (T := TX8) (N := 12) hx hb hts (fun _ h => List.mem_cons_of_mem _ (List.mem_append_right _ h)) hown hK hP 0 rfl rfl 1 (by decide) (hts (.fieldLink RX8 62 "LitmusHall" "tapeSize" "I") (by decide +kernel)) (fun _ h9 => h9) rfl dX8_feedWord_32 ?_
  refine lv_iconst (v := 1) hx hb dX8_feedWord_35 (by decide) ?_
  refine lv_iadd hx hb dX8_feedWord_36 ?_
  refine gx_top (y := 17) (by decide +kernel) ?_
  refine va_put (D := D) (ci := 8) (v := .int 17) (ty := .int) (C := RX8) (T := TX8) (N := 12) hx hb hts (fun _ h => List.mem_cons_of_mem _ (List.mem_append_right _ h)) tyX8 tyX8_ok nmX8 hown hK hP hD hS 0 rfl rfl 1 (by decide) (hts (.fieldLink RX8 62 "LitmusHall" "tapeSize" "I") (by decide +kernel)) (fun _ h9 => h9) rfl (by decide +kernel) rfl rfl (Nat.le_of_ble_eq_true rfl) dX8_feedWord_37 (fun H locs hP hD hS => ?_)
  have hP : va_P D vwCl [(h0, .inr (8, [.ref a0, .int 17, v2, v3, v4, v5, v6, v7, v8, v9, v10, v11])), (a0, .inl (cB, 4000, .inl (upd f (Int32.toNatClampNeg 16) (vp_nar .byte ((w >>> ((24 : Int32) &&& 31)).toInt8.toInt32)))))] H := hP
  have hD : va_D A [(h0, .inr (8, [.ref a0, .int 17, v2, v3, v4, v5, v6, v7, v8, v9, v10, v11])), (a0, .inl (cB, 4000, .inl (upd f (Int32.toNatClampNeg 16) (vp_nar .byte ((w >>> ((24 : Int32) &&& 31)).toInt8.toInt32)))))] := hD
  refine lv_iinc (v := 16) (lv' := [(2, .int 16), (0, .ref h0), (1, .int w)]) hx hb dX8_feedWord_40 hl (k := 0) rfl (by decide +kernel) (by decide) rfl (fun ls hl => ?_)
  refine lv_goto (tgt := 3) hx hb dX8_feedWord_43 (by decide) ?_
  refine lv_iload_n hx hb dX8_feedWord_3 rfl (lv_at hl 0 rfl) ?_
  refine lv_if_lt (tgt := 46) hx hb dX8_feedWord_4 (by decide) (fun c9 => absurd c9 (by decide)) (fun _ => ?_)
  refine lv_aload_n hx hb dX8_feedWord_7 rfl (lv_at hl 1 rfl) ?_
  refine va_get (D := D) (ci := 8) (v := .int 17) (C := RX8) (T := TX8) (N := 12) hx hb hts (fun _ h => List.mem_cons_of_mem _ (List.mem_append_right _ h)) hown hK hP 0 rfl rfl 1 (by decide) (hts (.fieldLink RX8 62 "LitmusHall" "tapeSize" "I") (by decide +kernel)) (fun _ h9 => h9) rfl dX8_feedWord_8 ?_
  refine lv_sipush (v := 4000) hx hb dX8_feedWord_11 (by decide) ?_
  refine lv_icmp_ge (tgt := 46) hx hb dX8_feedWord_14 (by decide) (fun c9 => absurd c9 (by decide)) (fun _ => ?_)
  refine lv_aload_n hx hb dX8_feedWord_17 rfl (lv_at hl 1 rfl) ?_
  refine va_get (D := D) (ci := 8) (v := .ref a0) (C := RX8) (T := TX8) (N := 12) hx hb hts (fun _ h => List.mem_cons_of_mem _ (List.mem_append_right _ h)) hown hK hP 0 rfl rfl 0 (by decide) (hts (.fieldLink RX8 9 "LitmusHall" "tape" "[B") (by decide +kernel)) (fun _ h9 => h9) rfl dX8_feedWord_18 ?_
  refine lv_aload_n hx hb dX8_feedWord_21 rfl (lv_at hl 1 rfl) ?_
  refine va_get (D := D) (ci := 8) (v := .int 17) (C := RX8) (T := TX8) (N := 12) hx hb hts (fun _ h => List.mem_cons_of_mem _ (List.mem_append_right _ h)) hown hK hP 0 rfl rfl 1 (by decide) (hts (.fieldLink RX8 62 "LitmusHall" "tapeSize" "I") (by decide +kernel)) (fun _ h9 => h9) rfl dX8_feedWord_22 ?_
  refine lv_iload_n hx hb dX8_feedWord_25 rfl (lv_at hl 2 rfl) ?_
  refine lv_iload_n hx hb dX8_feedWord_26 rfl (lv_at hl 0 rfl) ?_
  refine lv_ishr hx hb dX8_feedWord_27 ?_
  refine lv_i2b (v := (w >>> ((16 : Int32) &&& 31)).toInt8.toInt32) hx hb dX8_feedWord_28 rfl ?_
  refine va_bast hx hb hK hP hD hS 1 1 rfl rfl (by unfold vp_in; decide +kernel) dX8_feedWord_29 (fun H locs hP hD hS => ?_)
  have hP : va_P D vwCl [(h0, .inr (8, [.ref a0, .int 17, v2, v3, v4, v5, v6, v7, v8, v9, v10, v11])), (a0, .inl (cB, 4000, .inl (upd (upd f (Int32.toNatClampNeg 16) (vp_nar .byte ((w >>> ((24 : Int32) &&& 31)).toInt8.toInt32))) (Int32.toNatClampNeg 17) (vp_nar .byte ((w >>> ((16 : Int32) &&& 31)).toInt8.toInt32)))))] H := hP
  have hD : va_D A [(h0, .inr (8, [.ref a0, .int 17, v2, v3, v4, v5, v6, v7, v8, v9, v10, v11])), (a0, .inl (cB, 4000, .inl (upd (upd f (Int32.toNatClampNeg 16) (vp_nar .byte ((w >>> ((24 : Int32) &&& 31)).toInt8.toInt32))) (Int32.toNatClampNeg 17) (vp_nar .byte ((w >>> ((16 : Int32) &&& 31)).toInt8.toInt32)))))] := hD
  refine lv_aload_n hx hb dX8_feedWord_30 rfl (lv_at hl 1 rfl) ?_
  refine lv_dup hx hb dX8_feedWord_31 rfl ?_
  refine va_get (D := D) (ci := 8) (v := .int 17) (C := RX8) (T := TX8) (N := 12) hx hb hts (fun _ h => List.mem_cons_of_mem _ (List.mem_append_right _ h)) hown hK hP 0 rfl rfl 1 (by decide) (hts (.fieldLink RX8 62 "LitmusHall" "tapeSize" "I") (by decide +kernel)) (fun _ h9 => h9) rfl dX8_feedWord_32 ?_
  refine lv_iconst (v := 1) hx hb dX8_feedWord_35 (by decide) ?_
  refine lv_iadd hx hb dX8_feedWord_36 ?_
  refine gx_top (y := 18) (by decide +kernel) ?_
  refine va_put (D := D) (ci := 8) (v := .int 18) (ty := .int) (C := RX8) (T := TX8) (N := 12) hx hb hts (fun _ h => List.mem_cons_of_mem _ (List.mem_append_right _ h)) tyX8 tyX8_ok nmX8 hown hK hP hD hS 0 rfl rfl 1 (by decide) (hts (.fieldLink RX8 62 "LitmusHall" "tapeSize" "I") (by decide +kernel)) (fun _ h9 => h9) rfl (by decide +kernel) rfl rfl (Nat.le_of_ble_eq_true rfl) dX8_feedWord_37 (fun H locs hP hD hS => ?_)
  have hP : va_P D vwCl [(h0, .inr (8, [.ref a0, .int 18, v2, v3, v4, v5, v6, v7, v8, v9, v10, v11])), (a0, .inl (cB, 4000, .inl (upd (upd f (Int32.toNatClampNeg 16) (vp_nar .byte ((w >>> ((24 : Int32) &&& 31)).toInt8.toInt32))) (Int32.toNatClampNeg 17) (vp_nar .byte ((w >>> ((16 : Int32) &&& 31)).toInt8.toInt32)))))] H := hP
  have hD : va_D A [(h0, .inr (8, [.ref a0, .int 18, v2, v3, v4, v5, v6, v7, v8, v9, v10, v11])), (a0, .inl (cB, 4000, .inl (upd (upd f (Int32.toNatClampNeg 16) (vp_nar .byte ((w >>> ((24 : Int32) &&& 31)).toInt8.toInt32))) (Int32.toNatClampNeg 17) (vp_nar .byte ((w >>> ((16 : Int32) &&& 31)).toInt8.toInt32)))))] := hD
  refine lv_iinc (v := 8) (lv' := [(2, .int 8), (0, .ref h0), (1, .int w)]) hx hb dX8_feedWord_40 hl (k := 0) rfl (by decide +kernel) (by decide) rfl (fun ls hl => ?_)
  refine lv_goto (tgt := 3) hx hb dX8_feedWord_43 (by decide) ?_
  refine lv_iload_n hx hb dX8_feedWord_3 rfl (lv_at hl 0 rfl) ?_
  refine lv_if_lt (tgt := 46) hx hb dX8_feedWord_4 (by decide) (fun c9 => absurd c9 (by decide)) (fun _ => ?_)
  refine lv_aload_n hx hb dX8_feedWord_7 rfl (lv_at hl 1 rfl) ?_
  refine va_get (D := D) (ci := 8) (v := .int 18) (C := RX8) (T := TX8) (N := 12) hx hb hts (fun _ h => List.mem_cons_of_mem _ (List.mem_append_right _ h)) hown hK hP 0 rfl rfl 1 (by decide) (hts (.fieldLink RX8 62 "LitmusHall" "tapeSize" "I") (by decide +kernel)) (fun _ h9 => h9) rfl dX8_feedWord_8 ?_
  refine lv_sipush (v := 4000) hx hb dX8_feedWord_11 (by decide) ?_
  refine lv_icmp_ge (tgt := 46) hx hb dX8_feedWord_14 (by decide) (fun c9 => absurd c9 (by decide)) (fun _ => ?_)
  refine lv_aload_n hx hb dX8_feedWord_17 rfl (lv_at hl 1 rfl) ?_
  refine va_get (D := D) (ci := 8) (v := .ref a0) (C := RX8) (T := TX8) (N := 12) hx hb hts (fun _ h => List.mem_cons_of_mem _ (List.mem_append_right _ h)) hown hK hP 0 rfl rfl 0 (by decide) (hts (.fieldLink RX8 9 "LitmusHall" "tape" "[B") (by decide +kernel)) (fun _ h9 => h9) rfl dX8_feedWord_18 ?_
  refine lv_aload_n hx hb dX8_feedWord_21 rfl (lv_at hl 1 rfl) ?_
  refine va_get (D := D) (ci := 8) (v := .int 18) (C := RX8) (T := TX8) (N := 12) hx hb hts (fun _ h => List.mem_cons_of_mem _ (List.mem_append_right _ h)) hown hK hP 0 rfl rfl 1 (by decide) (hts (.fieldLink RX8 62 "LitmusHall" "tapeSize" "I") (by decide +kernel)) (fun _ h9 => h9) rfl dX8_feedWord_22 ?_
  refine lv_iload_n hx hb dX8_feedWord_25 rfl (lv_at hl 2 rfl) ?_
  refine lv_iload_n hx hb dX8_feedWord_26 rfl (lv_at hl 0 rfl) ?_
  refine lv_ishr hx hb dX8_feedWord_27 ?_
  refine lv_i2b (v := (w >>> ((8 : Int32) &&& 31)).toInt8.toInt32) hx hb dX8_feedWord_28 rfl ?_
  refine va_bast hx hb hK hP hD hS 1 1 rfl rfl (by unfold vp_in; decide +kernel) dX8_feedWord_29 (fun H locs hP hD hS => ?_)
  have hP : va_P D vwCl [(h0, .inr (8, [.ref a0, .int 18, v2, v3, v4, v5, v6, v7, v8, v9, v10, v11])), (a0, .inl (cB, 4000, .inl (upd (upd (upd f (Int32.toNatClampNeg 16) (vp_nar .byte ((w >>> ((24 : Int32) &&& 31)).toInt8.toInt32))) (Int32.toNatClampNeg 17) (vp_nar .byte ((w >>> ((16 : Int32) &&& 31)).toInt8.toInt32))) (Int32.toNatClampNeg 18) (vp_nar .byte ((w >>> ((8 : Int32) &&& 31)).toInt8.toInt32)))))] H := hP
  have hD : va_D A [(h0, .inr (8, [.ref a0, .int 18, v2, v3, v4, v5, v6, v7, v8, v9, v10, v11])), (a0, .inl (cB, 4000, .inl (upd (upd (upd f (Int32.toNatClampNeg 16) (vp_nar .byte ((w >>> ((24 : Int32) &&& 31)).toInt8.toInt32))) (Int32.toNatClampNeg 17) (vp_nar .byte ((w >>> ((16 : Int32) &&& 31)).toInt8.toInt32))) (Int32.toNatClampNeg 18) (vp_nar .byte ((w >>> ((8 : Int32) &&& 31)).toInt8.toInt32)))))] := hD
  refine lv_aload_n hx hb dX8_feedWord_30 rfl (lv_at hl 1 rfl) ?_
  refine lv_dup hx hb dX8_feedWord_31 rfl ?_
  refine va_get (D := D) (ci := 8) (v := .int 18) (C := RX8) (T := TX8) (N := 12) hx hb hts (fun _ h => List.mem_cons_of_mem _ (List.mem_append_right _ h)) hown hK hP 0 rfl rfl 1 (by decide) (hts (.fieldLink RX8 62 "LitmusHall" "tapeSize" "I") (by decide +kernel)) (fun _ h9 => h9) rfl dX8_feedWord_32 ?_
  refine lv_iconst (v := 1) hx hb dX8_feedWord_35 (by decide) ?_
  refine lv_iadd hx hb dX8_feedWord_36 ?_
  refine gx_top (y := 19) (by decide +kernel) ?_
  refine va_put (D := D) (ci := 8) (v := .int 19) (ty := .int) (C := RX8) (T := TX8) (N := 12) hx hb hts (fun _ h => List.mem_cons_of_mem _ (List.mem_append_right _ h)) tyX8 tyX8_ok nmX8 hown hK hP hD hS 0 rfl rfl 1 (by decide) (hts (.fieldLink RX8 62 "LitmusHall" "tapeSize" "I") (by decide +kernel)) (fun _ h9 => h9) rfl (by decide +kernel) rfl rfl (Nat.le_of_ble_eq_true rfl) dX8_feedWord_37 (fun H locs hP hD hS => ?_)
  have hP : va_P D vwCl [(h0, .inr (8, [.ref a0, .int 19, v2, v3, v4, v5, v6, v7, v8, v9, v10, v11])), (a0, .inl (cB, 4000, .inl (upd (upd (upd f (Int32.toNatClampNeg 16) (vp_nar .byte ((w >>> ((24 : Int32) &&& 31)).toInt8.toInt32))) (Int32.toNatClampNeg 17) (vp_nar .byte ((w >>> ((16 : Int32) &&& 31)).toInt8.toInt32))) (Int32.toNatClampNeg 18) (vp_nar .byte ((w >>> ((8 : Int32) &&& 31)).toInt8.toInt32)))))] H := hP
  have hD : va_D A [(h0, .inr (8, [.ref a0, .int 19, v2, v3, v4, v5, v6, v7, v8, v9, v10, v11])), (a0, .inl (cB, 4000, .inl (upd (upd (upd f (Int32.toNatClampNeg 16) (vp_nar .byte ((w >>> ((24 : Int32) &&& 31)).toInt8.toInt32))) (Int32.toNatClampNeg 17) (vp_nar .byte ((w >>> ((16 : Int32) &&& 31)).toInt8.toInt32))) (Int32.toNatClampNeg 18) (vp_nar .byte ((w >>> ((8 : Int32) &&& 31)).toInt8.toInt32)))))] := hD
  refine lv_iinc (v := 0) (lv' := [(2, .int 0), (0, .ref h0), (1, .int w)]) hx hb dX8_feedWord_40 hl (k := 0) rfl (by decide +kernel) (by decide) rfl (fun ls hl => ?_)
  refine lv_goto (tgt := 3) hx hb dX8_feedWord_43 (by decide) ?_
  refine lv_iload_n hx hb dX8_feedWord_3 rfl (lv_at hl 0 rfl) ?_
  refine lv_if_lt (tgt := 46) hx hb dX8_feedWord_4 (by decide) (fun c9 => absurd c9 (by decide)) (fun _ => ?_)
  refine lv_aload_n hx hb dX8_feedWord_7 rfl (lv_at hl 1 rfl) ?_
  refine va_get (D := D) (ci := 8) (v := .int 19) (C := RX8) (T := TX8) (N := 12) hx hb hts (fun _ h => List.mem_cons_of_mem _ (List.mem_append_right _ h)) hown hK hP 0 rfl rfl 1 (by decide) (hts (.fieldLink RX8 62 "LitmusHall" "tapeSize" "I") (by decide +kernel)) (fun _ h9 => h9) rfl dX8_feedWord_8 ?_
  refine lv_sipush (v := 4000) hx hb dX8_feedWord_11 (by decide) ?_
  refine lv_icmp_ge (tgt := 46) hx hb dX8_feedWord_14 (by decide) (fun c9 => absurd c9 (by decide)) (fun _ => ?_)
  refine lv_aload_n hx hb dX8_feedWord_17 rfl (lv_at hl 1 rfl) ?_
  refine va_get (D := D) (ci := 8) (v := .ref a0) (C := RX8) (T := TX8) (N := 12) hx hb hts (fun _ h => List.mem_cons_of_mem _ (List.mem_append_right _ h)) hown hK hP 0 rfl rfl 0 (by decide) (hts (.fieldLink RX8 9 "LitmusHall" "tape" "[B") (by decide +kernel)) (fun _ h9 => h9) rfl dX8_feedWord_18 ?_
  refine lv_aload_n hx hb dX8_feedWord_21 rfl (lv_at hl 1 rfl) ?_
  refine va_get (D := D) (ci := 8) (v := .int 19) (C := RX8) (T := TX8) (N := 12) hx hb hts (fun _ h => List.mem_cons_of_mem _ (List.mem_append_right _ h)) hown hK hP 0 rfl rfl 1 (by decide) (hts (.fieldLink RX8 62 "LitmusHall" "tapeSize" "I") (by decide +kernel)) (fun _ h9 => h9) rfl dX8_feedWord_22 ?_
  refine lv_iload_n hx hb dX8_feedWord_25 rfl (lv_at hl 2 rfl) ?_
  refine lv_iload_n hx hb dX8_feedWord_26 rfl (lv_at hl 0 rfl) ?_
  refine lv_ishr hx hb dX8_feedWord_27 ?_
  refine lv_i2b (v := (w >>> ((0 : Int32) &&& 31)).toInt8.toInt32) hx hb dX8_feedWord_28 rfl ?_
  refine va_bast hx hb hK hP hD hS 1 1 rfl rfl (by unfold vp_in; decide +kernel) dX8_feedWord_29 (fun H locs hP hD hS => ?_)
  have hP : va_P D vwCl [(h0, .inr (8, [.ref a0, .int 19, v2, v3, v4, v5, v6, v7, v8, v9, v10, v11])), (a0, .inl (cB, 4000, .inl (upd (upd (upd (upd f (Int32.toNatClampNeg 16) (vp_nar .byte ((w >>> ((24 : Int32) &&& 31)).toInt8.toInt32))) (Int32.toNatClampNeg 17) (vp_nar .byte ((w >>> ((16 : Int32) &&& 31)).toInt8.toInt32))) (Int32.toNatClampNeg 18) (vp_nar .byte ((w >>> ((8 : Int32) &&& 31)).toInt8.toInt32))) (Int32.toNatClampNeg 19) (vp_nar .byte ((w >>> ((0 : Int32) &&& 31)).toInt8.toInt32)))))] H := hP
  have hD : va_D A [(h0, .inr (8, [.ref a0, .int 19, v2, v3, v4, v5, v6, v7, v8, v9, v10, v11])), (a0, .inl (cB, 4000, .inl (upd (upd (upd (upd f (Int32.toNatClampNeg 16) (vp_nar .byte ((w >>> ((24 : Int32) &&& 31)).toInt8.toInt32))) (Int32.toNatClampNeg 17) (vp_nar .byte ((w >>> ((16 : Int32) &&& 31)).toInt8.toInt32))) (Int32.toNatClampNeg 18) (vp_nar .byte ((w >>> ((8 : Int32) &&& 31)).toInt8.toInt32))) (Int32.toNatClampNeg 19) (vp_nar .byte ((w >>> ((0 : Int32) &&& 31)).toInt8.toInt32)))))] := hD
  refine lv_aload_n hx hb dX8_feedWord_30 rfl (lv_at hl 1 rfl) ?_
  refine lv_dup hx hb dX8_feedWord_31 rfl ?_
  refine va_get (D := D) (ci := 8) (v := .int 19) (C := RX8) (T := TX8) (N := 12) hx hb hts (fun _ h => List.mem_cons_of_mem _ (List.mem_append_right _ h)) hown hK hP 0 rfl rfl 1 (by decide) (hts (.fieldLink RX8 62 "LitmusHall" "tapeSize" "I") (by decide +kernel)) (fun _ h9 => h9) rfl dX8_feedWord_32 ?_
  refine lv_iconst (v := 1) hx hb dX8_feedWord_35 (by decide) ?_
  refine lv_iadd hx hb dX8_feedWord_36 ?_
  refine gx_top (y := 20) (by decide +kernel) ?_
  refine va_put (D := D) (ci := 8) (v := .int 20) (ty := .int) (C := RX8) (T := TX8) (N := 12) hx hb hts (fun _ h => List.mem_cons_of_mem _ (List.mem_append_right _ h)) tyX8 tyX8_ok nmX8 hown hK hP hD hS 0 rfl rfl 1 (by decide) (hts (.fieldLink RX8 62 "LitmusHall" "tapeSize" "I") (by decide +kernel)) (fun _ h9 => h9) rfl (by decide +kernel) rfl rfl (Nat.le_of_ble_eq_true rfl) dX8_feedWord_37 (fun H locs hP hD hS => ?_)
  have hP : va_P D vwCl [(h0, .inr (8, [.ref a0, .int 20, v2, v3, v4, v5, v6, v7, v8, v9, v10, v11])), (a0, .inl (cB, 4000, .inl (upd (upd (upd (upd f (Int32.toNatClampNeg 16) (vp_nar .byte ((w >>> ((24 : Int32) &&& 31)).toInt8.toInt32))) (Int32.toNatClampNeg 17) (vp_nar .byte ((w >>> ((16 : Int32) &&& 31)).toInt8.toInt32))) (Int32.toNatClampNeg 18) (vp_nar .byte ((w >>> ((8 : Int32) &&& 31)).toInt8.toInt32))) (Int32.toNatClampNeg 19) (vp_nar .byte ((w >>> ((0 : Int32) &&& 31)).toInt8.toInt32)))))] H := hP
  have hD : va_D A [(h0, .inr (8, [.ref a0, .int 20, v2, v3, v4, v5, v6, v7, v8, v9, v10, v11])), (a0, .inl (cB, 4000, .inl (upd (upd (upd (upd f (Int32.toNatClampNeg 16) (vp_nar .byte ((w >>> ((24 : Int32) &&& 31)).toInt8.toInt32))) (Int32.toNatClampNeg 17) (vp_nar .byte ((w >>> ((16 : Int32) &&& 31)).toInt8.toInt32))) (Int32.toNatClampNeg 18) (vp_nar .byte ((w >>> ((8 : Int32) &&& 31)).toInt8.toInt32))) (Int32.toNatClampNeg 19) (vp_nar .byte ((w >>> ((0 : Int32) &&& 31)).toInt8.toInt32)))))] := hD
  refine lv_iinc (v := (-8)) (lv' := [(2, .int (-8)), (0, .ref h0), (1, .int w)]) hx hb dX8_feedWord_40 hl (k := 0) rfl (by decide +kernel) (by decide) rfl (fun ls hl => ?_)
  refine lv_goto (tgt := 3) hx hb dX8_feedWord_43 (by decide) ?_
  refine lv_iload_n hx hb dX8_feedWord_3 rfl (lv_at hl 0 rfl) ?_
  refine lv_if_lt (tgt := 46) hx hb dX8_feedWord_4 (by decide) (fun _ => ?_) (fun c9 => absurd (by decide) c9)
  exact gx_vret hx hb hr hlk hK hP hD hS (Nat.le_of_ble_eq_true rfl) (Nat.le_of_ble_eq_true rfl) dX8_feedWord_46 rfl
def wsP_c_X8_feed : List Cond := .code yX8_feed cX8_feed 6 (some .int) :: ([.fieldLink RX8 62 "LitmusHall" "tapeSize" "I", .methodLink RX8 65 yX8_feedWord, .instanceMethod yX8_feedWord, .selects RX8 yX8_feedWord yX8_feedWord, .initialized RX8, .fieldLink RX8 9 "LitmusHall" "tape" "[B", .code yX8_feedWord cX8_feedWord 3 none] ++ wsX80)
set_option maxRecDepth 20000 in
theorem gP_c_X8_feed__c_X8_feedWord_0 : GoodIn wsP_c_X8_feed (wsV RX8 65 RX8 yX8_feedWord wsP_c_X8_feedWord_0) := goodIn_r _ [2, 3, 4, 5, 7, 1, 6, 8, 9, 10, 11, 12, 13, 14, 15, 16, 17, 18, 19] (by decide +kernel) (by decide +kernel)
set_option maxRecDepth 20000 in
theorem gP_c_X8_feed__c_X8_feedWord_4 : GoodIn wsP_c_X8_feed (wsV RX8 65 RX8 yX8_feedWord wsP_c_X8_feedWord_4) := goodIn_r _ [2, 3, 4, 5, 7, 1, 6, 8, 9, 10, 11, 12, 13, 14, 15, 16, 17, 18, 19] (by decide +kernel) (by decide +kernel)
set_option maxRecDepth 20000 in
theorem gP_c_X8_feed__c_X8_feedWord_8 : GoodIn wsP_c_X8_feed (wsV RX8 65 RX8 yX8_feedWord wsP_c_X8_feedWord_8) := goodIn_r _ [2, 3, 4, 5, 7, 1, 6, 8, 9, 10, 11, 12, 13, 14, 15, 16, 17, 18, 19] (by decide +kernel) (by decide +kernel)
set_option maxRecDepth 20000 in
theorem gP_c_X8_feed__c_X8_feedWord_12 : GoodIn wsP_c_X8_feed (wsV RX8 65 RX8 yX8_feedWord wsP_c_X8_feedWord_12) := goodIn_r _ [2, 3, 4, 5, 7, 1, 6, 8, 9, 10, 11, 12, 13, 14, 15, 16, 17, 18, 19] (by decide +kernel) (by decide +kernel)
set_option maxRecDepth 20000 in
theorem gP_c_X8_feed__c_X8_feedWord_16 : GoodIn wsP_c_X8_feed (wsV RX8 65 RX8 yX8_feedWord wsP_c_X8_feedWord_16) := goodIn_r _ [2, 3, 4, 5, 7, 1, 6, 8, 9, 10, 11, 12, 13, 14, 15, 16, 17, 18, 19] (by decide +kernel) (by decide +kernel)
set_option maxHeartbeats 4000000 in
set_option maxRecDepth 100000 in
theorem c_X8_feed (l : Launch) (D : va_G) (cI cB cZ : ClassId) (h0 : Nat) (a0 : Nat) (f : Nat → Int32) (v2 : Value) (v3 : Value) (v4 : Value) (v5 : Value) (v6 : Value) (v7 : Value) (v8 : Value) (v9 : Value) (v10 : Value) (v11 : Value) (w1 : Int32) (w2 : Int32) (w3 : Int32) (w4 : Int32) (w5 : Int32)  : gMi l yX8_feed wsP_c_X8_feed ({ frames := 1, cells := 0, slots := 0, locals := 22 }) D cI cB cZ [] [.ref h0, .int w1, .int w2, .int w3, .int w4, .int w5] [(h0, .inr (8, [.ref a0, .int 0, v2, v3, v4, v5, v6, v7, v8, v9, v10, v11])), (a0, .inl (cB, 4000, .inl f))] (fun r9 w9 => r9 = 20 ∧ w9 = [(h0, .inr (8, [.ref a0, .int 20, v2, v3, v4, v5, v6, v7, v8, v9, v10, v11])), (a0, .inl (cB, 4000, .inl (upd (upd (upd (upd (upd (upd (upd (upd (upd (upd (upd (upd (upd (upd (upd (upd (upd (upd (upd (upd f (Int32.toNatClampNeg 0) (vp_nar .byte ((w1 >>> ((24 : Int32) &&& 31)).toInt8.toInt32))) (Int32.toNatClampNeg 1) (vp_nar .byte ((w1 >>> ((16 : Int32) &&& 31)).toInt8.toInt32))) (Int32.toNatClampNeg 2) (vp_nar .byte ((w1 >>> ((8 : Int32) &&& 31)).toInt8.toInt32))) (Int32.toNatClampNeg 3) (vp_nar .byte ((w1 >>> ((0 : Int32) &&& 31)).toInt8.toInt32))) (Int32.toNatClampNeg 4) (vp_nar .byte ((w2 >>> ((24 : Int32) &&& 31)).toInt8.toInt32))) (Int32.toNatClampNeg 5) (vp_nar .byte ((w2 >>> ((16 : Int32) &&& 31)).toInt8.toInt32))) (Int32.toNatClampNeg 6) (vp_nar .byte ((w2 >>> ((8 : Int32) &&& 31)).toInt8.toInt32))) (Int32.toNatClampNeg 7) (vp_nar .byte ((w2 >>> ((0 : Int32) &&& 31)).toInt8.toInt32))) (Int32.toNatClampNeg 8) (vp_nar .byte ((w3 >>> ((24 : Int32) &&& 31)).toInt8.toInt32))) (Int32.toNatClampNeg 9) (vp_nar .byte ((w3 >>> ((16 : Int32) &&& 31)).toInt8.toInt32))) (Int32.toNatClampNeg 10) (vp_nar .byte ((w3 >>> ((8 : Int32) &&& 31)).toInt8.toInt32))) (Int32.toNatClampNeg 11) (vp_nar .byte ((w3 >>> ((0 : Int32) &&& 31)).toInt8.toInt32))) (Int32.toNatClampNeg 12) (vp_nar .byte ((w4 >>> ((24 : Int32) &&& 31)).toInt8.toInt32))) (Int32.toNatClampNeg 13) (vp_nar .byte ((w4 >>> ((16 : Int32) &&& 31)).toInt8.toInt32))) (Int32.toNatClampNeg 14) (vp_nar .byte ((w4 >>> ((8 : Int32) &&& 31)).toInt8.toInt32))) (Int32.toNatClampNeg 15) (vp_nar .byte ((w4 >>> ((0 : Int32) &&& 31)).toInt8.toInt32))) (Int32.toNatClampNeg 16) (vp_nar .byte ((w5 >>> ((24 : Int32) &&& 31)).toInt8.toInt32))) (Int32.toNatClampNeg 17) (vp_nar .byte ((w5 >>> ((16 : Int32) &&& 31)).toInt8.toInt32))) (Int32.toNatClampNeg 18) (vp_nar .byte ((w5 >>> ((8 : Int32) &&& 31)).toInt8.toInt32))) (Int32.toNatClampNeg 19) (vp_nar .byte ((w5 >>> ((0 : Int32) &&& 31)).toInt8.toInt32)))))]) := by
  refine gMi.of (cc := cX8_feed) (maxL := 6) (ret := (some .int)) (by decide) rfl (Nat.le_of_ble_eq_true rfl) (fun p e s m below meth c A ls hx hb hr hlk hml hts hown hin hA hP hK hD hS hN hl => ?_)
  have hown : s.vm.findClass RX8 = some m.cls := hown
  have hl : lv_has ls 6 [(0, .ref h0), (1, .int w1), (2, .int w2), (3, .int w3), (4, .int w4), (5, .int w5)] := hl
  refine lv_aload_n hx hb dX8_feed_0 rfl (lv_at hl 0 rfl) ?_
  refine va_get (D := D) (ci := 8) (v := .int 0) (C := RX8) (T := TX8) (N := 12) hx hb hts (fun _ h => List.mem_cons_of_mem _ (List.mem_append_right _ h)) hown hK hP 0 rfl rfl 1 (by decide) (hts (.fieldLink RX8 62 "LitmusHall" "tapeSize" "I") (by decide +kernel)) (fun _ h9 => h9) rfl dX8_feed_1 ?_
  refine lv_bipush (v := 20) hx hb dX8_feed_4 (by decide) ?_
  refine lv_iadd hx hb dX8_feed_6 ?_
  refine gx_top (y := 20) (by decide +kernel) ?_
  refine lv_sipush (v := 4000) hx hb dX8_feed_7 (by decide) ?_
  refine lv_icmp_le (tgt := 15) hx hb dX8_feed_10 (by decide) (fun _ => ?_) (fun c9 => absurd (by decide) c9)
  refine lv_aload_n hx hb dX8_feed_15 rfl (lv_at hl 0 rfl) ?_
  refine lv_iload_n hx hb dX8_feed_16 rfl (lv_at hl 1 rfl) ?_
  refine gx_gov (wc := [(h0, .inr (8, [.ref a0, .int 0, v2, v3, v4, v5, v6, v7, v8, v9, v10, v11])), (a0, .inl (cB, 4000, .inl f))]) (wr := []) (va_runV (As := [.int w1]) (rest := []) ⟨hx, hb, hml, hown, hts⟩ (c_X8_feedWord_0 l D cI cB cZ h0 a0 f (v2) (v3) (v4) (v5) (v6) (v7) (v8) (v9) (v10) (v11) w1 _) (cwV 1 hts gP_c_X8_feed__c_X8_feedWord_0 rfl rfl rfl (by decide +kernel) ⟨Nat.le_of_ble_eq_true rfl, Nat.le_of_ble_eq_true rfl⟩) (gx_preV (ci := 8) (q0 := 0) hK gN.nil hP hD [0, 1] rfl rfl rfl rfl) rfl rfl hl.1 rfl (lv_room (Nat.le_of_ble_eq_true rfl)) dX8_feed_17 ⟨Nat.le_of_ble_eq_true rfl, Nat.le_of_ble_eq_true rfl⟩) hP hD hS hA [0, 1] [] rfl rfl rfl (by decide) (fun w1 H locs hp hP hD hS => ?_)
  obtain ⟨rfl⟩ := hp
  have hP : va_P D vwCl [(h0, .inr (8, [.ref a0, .int 4, v2, v3, v4, v5, v6, v7, v8, v9, v10, v11])), (a0, .inl (cB, 4000, .inl (upd (upd (upd (upd f (Int32.toNatClampNeg 0) (vp_nar .byte ((w1 >>> ((24 : Int32) &&& 31)).toInt8.toInt32))) (Int32.toNatClampNeg 1) (vp_nar .byte ((w1 >>> ((16 : Int32) &&& 31)).toInt8.toInt32))) (Int32.toNatClampNeg 2) (vp_nar .byte ((w1 >>> ((8 : Int32) &&& 31)).toInt8.toInt32))) (Int32.toNatClampNeg 3) (vp_nar .byte ((w1 >>> ((0 : Int32) &&& 31)).toInt8.toInt32)))))] H := hP
  have hD : va_D A [(h0, .inr (8, [.ref a0, .int 4, v2, v3, v4, v5, v6, v7, v8, v9, v10, v11])), (a0, .inl (cB, 4000, .inl (upd (upd (upd (upd f (Int32.toNatClampNeg 0) (vp_nar .byte ((w1 >>> ((24 : Int32) &&& 31)).toInt8.toInt32))) (Int32.toNatClampNeg 1) (vp_nar .byte ((w1 >>> ((16 : Int32) &&& 31)).toInt8.toInt32))) (Int32.toNatClampNeg 2) (vp_nar .byte ((w1 >>> ((8 : Int32) &&& 31)).toInt8.toInt32))) (Int32.toNatClampNeg 3) (vp_nar .byte ((w1 >>> ((0 : Int32) &&& 31)).toInt8.toInt32)))))] := hD
  refine W.widen (k := 0) (n := 0) (Nat.le_of_ble_eq_true rfl) (Nat.le_of_ble_eq_true rfl) ?_
  refine lv_aload_n hx hb dX8_feed_20 rfl (lv_at hl 0 rfl) ?_
  refine lv_iload_n hx hb dX8_feed_21 rfl (lv_at hl 2 rfl) ?_
  refine gx_gov (wc := [(h0, .inr (8, [.ref a0, .int 4, v2, v3, v4, v5, v6, v7, v8, v9, v10, v11])), (a0, .inl (cB, 4000, .inl (upd (upd (upd (upd f (Int32.toNatClampNeg 0) (vp_nar .byte ((w1 >>> ((24 : Int32) &&& 31)).toInt8.toInt32))) (Int32.toNatClampNeg 1) (vp_nar .byte ((w1 >>> ((16 : Int32) &&& 31)).toInt8.toInt32))) (Int32.toNatClampNeg 2) (vp_nar .byte ((w1 >>> ((8 : Int32) &&& 31)).toInt8.toInt32))) (Int32.toNatClampNeg 3) (vp_nar .byte ((w1 >>> ((0 : Int32) &&& 31)).toInt8.toInt32)))))]) (wr := []) (va_runV (As := [.int w2]) (rest := []) ⟨hx, hb, hml, hown, hts⟩ (c_X8_feedWord_4 l D cI cB cZ h0 a0 (upd (upd (upd (upd f (Int32.toNatClampNeg 0) (vp_nar .byte ((w1 >>> ((24 : Int32) &&& 31)).toInt8.toInt32))) (Int32.toNatClampNeg 1) (vp_nar .byte ((w1 >>> ((16 : Int32) &&& 31)).toInt8.toInt32))) (Int32.toNatClampNeg 2) (vp_nar .byte ((w1 >>> ((8 : Int32) &&& 31)).toInt8.toInt32))) (Int32.toNatClampNeg 3) (vp_nar .byte ((w1 >>> ((0 : Int32) &&& 31)).toInt8.toInt32))) (v2) (v3) (v4) (v5) (v6) (v7) (v8) (v9) (v10) (v11) w2 _) (cwV 1 hts gP_c_X8_feed__c_X8_feedWord_4 rfl rfl rfl (by decide +kernel) ⟨Nat.le_of_ble_eq_true rfl, Nat.le_of_ble_eq_true rfl⟩) (gx_preV (ci := 8) (q0 := 0) hK gN.nil hP hD [0, 1] rfl rfl rfl rfl) rfl rfl hl.1 rfl (lv_room (Nat.le_of_ble_eq_true rfl)) dX8_feed_22 ⟨Nat.le_of_ble_eq_true rfl, Nat.le_of_ble_eq_true rfl⟩) hP hD hS hA [0, 1] [] rfl rfl rfl (by decide) (fun w1 H locs hp hP hD hS => ?_)
  obtain ⟨rfl⟩ := hp
  have hP : va_P D vwCl [(h0, .inr (8, [.ref a0, .int 8, v2, v3, v4, v5, v6, v7, v8, v9, v10, v11])), (a0, .inl (cB, 4000, .inl (upd (upd (upd (upd (upd (upd (upd (upd f (Int32.toNatClampNeg 0) (vp_nar .byte ((w1 >>> ((24 : Int32) &&& 31)).toInt8.toInt32))) (Int32.toNatClampNeg 1) (vp_nar .byte ((w1 >>> ((16 : Int32) &&& 31)).toInt8.toInt32))) (Int32.toNatClampNeg 2) (vp_nar .byte ((w1 >>> ((8 : Int32) &&& 31)).toInt8.toInt32))) (Int32.toNatClampNeg 3) (vp_nar .byte ((w1 >>> ((0 : Int32) &&& 31)).toInt8.toInt32))) (Int32.toNatClampNeg 4) (vp_nar .byte ((w2 >>> ((24 : Int32) &&& 31)).toInt8.toInt32))) (Int32.toNatClampNeg 5) (vp_nar .byte ((w2 >>> ((16 : Int32) &&& 31)).toInt8.toInt32))) (Int32.toNatClampNeg 6) (vp_nar .byte ((w2 >>> ((8 : Int32) &&& 31)).toInt8.toInt32))) (Int32.toNatClampNeg 7) (vp_nar .byte ((w2 >>> ((0 : Int32) &&& 31)).toInt8.toInt32)))))] H := hP
  have hD : va_D A [(h0, .inr (8, [.ref a0, .int 8, v2, v3, v4, v5, v6, v7, v8, v9, v10, v11])), (a0, .inl (cB, 4000, .inl (upd (upd (upd (upd (upd (upd (upd (upd f (Int32.toNatClampNeg 0) (vp_nar .byte ((w1 >>> ((24 : Int32) &&& 31)).toInt8.toInt32))) (Int32.toNatClampNeg 1) (vp_nar .byte ((w1 >>> ((16 : Int32) &&& 31)).toInt8.toInt32))) (Int32.toNatClampNeg 2) (vp_nar .byte ((w1 >>> ((8 : Int32) &&& 31)).toInt8.toInt32))) (Int32.toNatClampNeg 3) (vp_nar .byte ((w1 >>> ((0 : Int32) &&& 31)).toInt8.toInt32))) (Int32.toNatClampNeg 4) (vp_nar .byte ((w2 >>> ((24 : Int32) &&& 31)).toInt8.toInt32))) (Int32.toNatClampNeg 5) (vp_nar .byte ((w2 >>> ((16 : Int32) &&& 31)).toInt8.toInt32))) (Int32.toNatClampNeg 6) (vp_nar .byte ((w2 >>> ((8 : Int32) &&& 31)).toInt8.toInt32))) (Int32.toNatClampNeg 7) (vp_nar .byte ((w2 >>> ((0 : Int32) &&& 31)).toInt8.toInt32)))))] := hD
  refine W.widen (k := 0) (n := 0) (Nat.le_of_ble_eq_true rfl) (Nat.le_of_ble_eq_true rfl) ?_
  refine lv_aload_n hx hb dX8_feed_25 rfl (lv_at hl 0 rfl) ?_
  refine lv_iload_n hx hb dX8_feed_26 rfl (lv_at hl 3 rfl) ?_
  refine gx_gov (wc := [(h0, .inr (8, [.ref a0, .int 8, v2, v3, v4, v5, v6, v7, v8, v9, v10, v11])), (a0, .inl (cB, 4000, .inl (upd (upd (upd (upd (upd (upd (upd (upd f (Int32.toNatClampNeg 0) (vp_nar .byte ((w1 >>> ((24 : Int32) &&& 31)).toInt8.toInt32))) (Int32.toNatClampNeg 1) (vp_nar .byte ((w1 >>> ((16 : Int32) &&& 31)).toInt8.toInt32))) (Int32.toNatClampNeg 2) (vp_nar .byte ((w1 >>> ((8 : Int32) &&& 31)).toInt8.toInt32))) (Int32.toNatClampNeg 3) (vp_nar .byte ((w1 >>> ((0 : Int32) &&& 31)).toInt8.toInt32))) (Int32.toNatClampNeg 4) (vp_nar .byte ((w2 >>> ((24 : Int32) &&& 31)).toInt8.toInt32))) (Int32.toNatClampNeg 5) (vp_nar .byte ((w2 >>> ((16 : Int32) &&& 31)).toInt8.toInt32))) (Int32.toNatClampNeg 6) (vp_nar .byte ((w2 >>> ((8 : Int32) &&& 31)).toInt8.toInt32))) (Int32.toNatClampNeg 7) (vp_nar .byte ((w2 >>> ((0 : Int32) &&& 31)).toInt8.toInt32)))))]) (wr := []) (va_runV (As := [.int w3]) (rest := []) ⟨hx, hb, hml, hown, hts⟩ (c_X8_feedWord_8 l D cI cB cZ h0 a0 (upd (upd (upd (upd (upd (upd (upd (upd f (Int32.toNatClampNeg 0) (vp_nar .byte ((w1 >>> ((24 : Int32) &&& 31)).toInt8.toInt32))) (Int32.toNatClampNeg 1) (vp_nar .byte ((w1 >>> ((16 : Int32) &&& 31)).toInt8.toInt32))) (Int32.toNatClampNeg 2) (vp_nar .byte ((w1 >>> ((8 : Int32) &&& 31)).toInt8.toInt32))) (Int32.toNatClampNeg 3) (vp_nar .byte ((w1 >>> ((0 : Int32) &&& 31)).toInt8.toInt32))) (Int32.toNatClampNeg 4) (vp_nar .byte ((w2 >>> ((24 : Int32) &&& 31)).toInt8.toInt32))) (Int32.toNatClampNeg 5) (vp_nar .byte ((w2 >>> ((16 : Int32) &&& 31)).toInt8.toInt32))) (Int32.toNatClampNeg 6) (vp_nar .byte ((w2 >>> ((8 : Int32) &&& 31)).toInt8.toInt32))) (Int32.toNatClampNeg 7) (vp_nar .byte ((w2 >>> ((0 : Int32) &&& 31)).toInt8.toInt32))) (v2) (v3) (v4) (v5) (v6) (v7) (v8) (v9) (v10) (v11) w3 _) (cwV 1 hts gP_c_X8_feed__c_X8_feedWord_8 rfl rfl rfl (by decide +kernel) ⟨Nat.le_of_ble_eq_true rfl, Nat.le_of_ble_eq_true rfl⟩) (gx_preV (ci := 8) (q0 := 0) hK gN.nil hP hD [0, 1] rfl rfl rfl rfl) rfl rfl hl.1 rfl (lv_room (Nat.le_of_ble_eq_true rfl)) dX8_feed_27 ⟨Nat.le_of_ble_eq_true rfl, Nat.le_of_ble_eq_true rfl⟩) hP hD hS hA [0, 1] [] rfl rfl rfl (by decide) (fun w1 H locs hp hP hD hS => ?_)
  obtain ⟨rfl⟩ := hp
  have hP : va_P D vwCl [(h0, .inr (8, [.ref a0, .int 12, v2, v3, v4, v5, v6, v7, v8, v9, v10, v11])), (a0, .inl (cB, 4000, .inl (upd (upd (upd (upd (upd (upd (upd (upd (upd (upd (upd (upd f (Int32.toNatClampNeg 0) (vp_nar .byte ((w1 >>> ((24 : Int32) &&& 31)).toInt8.toInt32))) (Int32.toNatClampNeg 1) (vp_nar .byte ((w1 >>> ((16 : Int32) &&& 31)).toInt8.toInt32))) (Int32.toNatClampNeg 2) (vp_nar .byte ((w1 >>> ((8 : Int32) &&& 31)).toInt8.toInt32))) (Int32.toNatClampNeg 3) (vp_nar .byte ((w1 >>> ((0 : Int32) &&& 31)).toInt8.toInt32))) (Int32.toNatClampNeg 4) (vp_nar .byte ((w2 >>> ((24 : Int32) &&& 31)).toInt8.toInt32))) (Int32.toNatClampNeg 5) (vp_nar .byte ((w2 >>> ((16 : Int32) &&& 31)).toInt8.toInt32))) (Int32.toNatClampNeg 6) (vp_nar .byte ((w2 >>> ((8 : Int32) &&& 31)).toInt8.toInt32))) (Int32.toNatClampNeg 7) (vp_nar .byte ((w2 >>> ((0 : Int32) &&& 31)).toInt8.toInt32))) (Int32.toNatClampNeg 8) (vp_nar .byte ((w3 >>> ((24 : Int32) &&& 31)).toInt8.toInt32))) (Int32.toNatClampNeg 9) (vp_nar .byte ((w3 >>> ((16 : Int32) &&& 31)).toInt8.toInt32))) (Int32.toNatClampNeg 10) (vp_nar .byte ((w3 >>> ((8 : Int32) &&& 31)).toInt8.toInt32))) (Int32.toNatClampNeg 11) (vp_nar .byte ((w3 >>> ((0 : Int32) &&& 31)).toInt8.toInt32)))))] H := hP
  have hD : va_D A [(h0, .inr (8, [.ref a0, .int 12, v2, v3, v4, v5, v6, v7, v8, v9, v10, v11])), (a0, .inl (cB, 4000, .inl (upd (upd (upd (upd (upd (upd (upd (upd (upd (upd (upd (upd f (Int32.toNatClampNeg 0) (vp_nar .byte ((w1 >>> ((24 : Int32) &&& 31)).toInt8.toInt32))) (Int32.toNatClampNeg 1) (vp_nar .byte ((w1 >>> ((16 : Int32) &&& 31)).toInt8.toInt32))) (Int32.toNatClampNeg 2) (vp_nar .byte ((w1 >>> ((8 : Int32) &&& 31)).toInt8.toInt32))) (Int32.toNatClampNeg 3) (vp_nar .byte ((w1 >>> ((0 : Int32) &&& 31)).toInt8.toInt32))) (Int32.toNatClampNeg 4) (vp_nar .byte ((w2 >>> ((24 : Int32) &&& 31)).toInt8.toInt32))) (Int32.toNatClampNeg 5) (vp_nar .byte ((w2 >>> ((16 : Int32) &&& 31)).toInt8.toInt32))) (Int32.toNatClampNeg 6) (vp_nar .byte ((w2 >>> ((8 : Int32) &&& 31)).toInt8.toInt32))) (Int32.toNatClampNeg 7) (vp_nar .byte ((w2 >>> ((0 : Int32) &&& 31)).toInt8.toInt32))) (Int32.toNatClampNeg 8) (vp_nar .byte ((w3 >>> ((24 : Int32) &&& 31)).toInt8.toInt32))) (Int32.toNatClampNeg 9) (vp_nar .byte ((w3 >>> ((16 : Int32) &&& 31)).toInt8.toInt32))) (Int32.toNatClampNeg 10) (vp_nar .byte ((w3 >>> ((8 : Int32) &&& 31)).toInt8.toInt32))) (Int32.toNatClampNeg 11) (vp_nar .byte ((w3 >>> ((0 : Int32) &&& 31)).toInt8.toInt32)))))] := hD
  refine W.widen (k := 0) (n := 0) (Nat.le_of_ble_eq_true rfl) (Nat.le_of_ble_eq_true rfl) ?_
  refine lv_aload_n hx hb dX8_feed_30 rfl (lv_at hl 0 rfl) ?_
  refine lv_iload hx hb dX8_feed_31 (lv_at hl 4 rfl) ?_
  refine gx_gov (wc := [(h0, .inr (8, [.ref a0, .int 12, v2, v3, v4, v5, v6, v7, v8, v9, v10, v11])), (a0, .inl (cB, 4000, .inl (upd (upd (upd (upd (upd (upd (upd (upd (upd (upd (upd (upd f (Int32.toNatClampNeg 0) (vp_nar .byte ((w1 >>> ((24 : Int32) &&& 31)).toInt8.toInt32))) (Int32.toNatClampNeg 1) (vp_nar .byte ((w1 >>> ((16 : Int32) &&& 31)).toInt8.toInt32))) (Int32.toNatClampNeg 2) (vp_nar .byte ((w1 >>> ((8 : Int32) &&& 31)).toInt8.toInt32))) (Int32.toNatClampNeg 3) (vp_nar .byte ((w1 >>> ((0 : Int32) &&& 31)).toInt8.toInt32))) (Int32.toNatClampNeg 4) (vp_nar .byte ((w2 >>> ((24 : Int32) &&& 31)).toInt8.toInt32))) (Int32.toNatClampNeg 5) (vp_nar .byte ((w2 >>> ((16 : Int32) &&& 31)).toInt8.toInt32))) (Int32.toNatClampNeg 6) (vp_nar .byte ((w2 >>> ((8 : Int32) &&& 31)).toInt8.toInt32))) (Int32.toNatClampNeg 7) (vp_nar .byte ((w2 >>> ((0 : Int32) &&& 31)).toInt8.toInt32))) (Int32.toNatClampNeg 8) (vp_nar .byte ((w3 >>> ((24 : Int32) &&& 31)).toInt8.toInt32))) (Int32.toNatClampNeg 9) (vp_nar .byte ((w3 >>> ((16 : Int32) &&& 31)).toInt8.toInt32))) (Int32.toNatClampNeg 10) (vp_nar .byte ((w3 >>> ((8 : Int32) &&& 31)).toInt8.toInt32))) (Int32.toNatClampNeg 11) (vp_nar .byte ((w3 >>> ((0 : Int32) &&& 31)).toInt8.toInt32)))))]) (wr := []) (va_runV (As := [.int w4]) (rest := []) ⟨hx, hb, hml, hown, hts⟩ (c_X8_feedWord_12 l D cI cB cZ h0 a0 (upd (upd (upd (upd (upd (upd (upd (upd (upd (upd (upd (upd f (Int32.toNatClampNeg 0) (vp_nar .byte ((w1 >>> ((24 : Int32) &&& 31)).toInt8.toInt32))) (Int32.toNatClampNeg 1) (vp_nar .byte ((w1 >>> ((16 : Int32) &&& 31)).toInt8.toInt32))) (Int32.toNatClampNeg 2) (vp_nar .byte ((w1 >>> ((8 : Int32) &&& 31)).toInt8.toInt32))) (Int32.toNatClampNeg 3) (vp_nar .byte ((w1 >>> ((0 : Int32) &&& 31)).toInt8.toInt32))) (Int32.toNatClampNeg 4) (vp_nar .byte ((w2 >>> ((24 : Int32) &&& 31)).toInt8.toInt32))) (Int32.toNatClampNeg 5) (vp_nar .byte ((w2 >>> ((16 : Int32) &&& 31)).toInt8.toInt32))) (Int32.toNatClampNeg 6) (vp_nar .byte ((w2 >>> ((8 : Int32) &&& 31)).toInt8.toInt32))) (Int32.toNatClampNeg 7) (vp_nar .byte ((w2 >>> ((0 : Int32) &&& 31)).toInt8.toInt32))) (Int32.toNatClampNeg 8) (vp_nar .byte ((w3 >>> ((24 : Int32) &&& 31)).toInt8.toInt32))) (Int32.toNatClampNeg 9) (vp_nar .byte ((w3 >>> ((16 : Int32) &&& 31)).toInt8.toInt32))) (Int32.toNatClampNeg 10) (vp_nar .byte ((w3 >>> ((8 : Int32) &&& 31)).toInt8.toInt32))) (Int32.toNatClampNeg 11) (vp_nar .byte ((w3 >>> ((0 : Int32) &&& 31)).toInt8.toInt32))) (v2) (v3) (v4) (v5) (v6) (v7) (v8) (v9) (v10) (v11) w4 _) (cwV 1 hts gP_c_X8_feed__c_X8_feedWord_12 rfl rfl rfl (by decide +kernel) ⟨Nat.le_of_ble_eq_true rfl, Nat.le_of_ble_eq_true rfl⟩) (gx_preV (ci := 8) (q0 := 0) hK gN.nil hP hD [0, 1] rfl rfl rfl rfl) rfl rfl hl.1 rfl (lv_room (Nat.le_of_ble_eq_true rfl)) dX8_feed_33 ⟨Nat.le_of_ble_eq_true rfl, Nat.le_of_ble_eq_true rfl⟩) hP hD hS hA [0, 1] [] rfl rfl rfl (by decide) (fun w1 H locs hp hP hD hS => ?_)
  obtain ⟨rfl⟩ := hp
  have hP : va_P D vwCl [(h0, .inr (8, [.ref a0, .int 16, v2, v3, v4, v5, v6, v7, v8, v9, v10, v11])), (a0, .inl (cB, 4000, .inl (upd (upd (upd (upd (upd (upd (upd (upd (upd (upd (upd (upd (upd (upd (upd (upd f (Int32.toNatClampNeg 0) (vp_nar .byte ((w1 >>> ((24 : Int32) &&& 31)).toInt8.toInt32))) (Int32.toNatClampNeg 1) (vp_nar .byte ((w1 >>> ((16 : Int32) &&& 31)).toInt8.toInt32))) (Int32.toNatClampNeg 2) (vp_nar .byte ((w1 >>> ((8 : Int32) &&& 31)).toInt8.toInt32))) (Int32.toNatClampNeg 3) (vp_nar .byte ((w1 >>> ((0 : Int32) &&& 31)).toInt8.toInt32))) (Int32.toNatClampNeg 4) (vp_nar .byte ((w2 >>> ((24 : Int32) &&& 31)).toInt8.toInt32))) (Int32.toNatClampNeg 5) (vp_nar .byte ((w2 >>> ((16 : Int32) &&& 31)).toInt8.toInt32))) (Int32.toNatClampNeg 6) (vp_nar .byte ((w2 >>> ((8 : Int32) &&& 31)).toInt8.toInt32))) (Int32.toNatClampNeg 7) (vp_nar .byte ((w2 >>> ((0 : Int32) &&& 31)).toInt8.toInt32))) (Int32.toNatClampNeg 8) (vp_nar .byte ((w3 >>> ((24 : Int32) &&& 31)).toInt8.toInt32))) (Int32.toNatClampNeg 9) (vp_nar .byte ((w3 >>> ((16 : Int32) &&& 31)).toInt8.toInt32))) (Int32.toNatClampNeg 10) (vp_nar .byte ((w3 >>> ((8 : Int32) &&& 31)).toInt8.toInt32))) (Int32.toNatClampNeg 11) (vp_nar .byte ((w3 >>> ((0 : Int32) &&& 31)).toInt8.toInt32))) (Int32.toNatClampNeg 12) (vp_nar .byte ((w4 >>> ((24 : Int32) &&& 31)).toInt8.toInt32))) (Int32.toNatClampNeg 13) (vp_nar .byte ((w4 >>> ((16 : Int32) &&& 31)).toInt8.toInt32))) (Int32.toNatClampNeg 14) (vp_nar .byte ((w4 >>> ((8 : Int32) &&& 31)).toInt8.toInt32))) (Int32.toNatClampNeg 15) (vp_nar .byte ((w4 >>> ((0 : Int32) &&& 31)).toInt8.toInt32)))))] H := hP
  have hD : va_D A [(h0, .inr (8, [.ref a0, .int 16, v2, v3, v4, v5, v6, v7, v8, v9, v10, v11])), (a0, .inl (cB, 4000, .inl (upd (upd (upd (upd (upd (upd (upd (upd (upd (upd (upd (upd (upd (upd (upd (upd f (Int32.toNatClampNeg 0) (vp_nar .byte ((w1 >>> ((24 : Int32) &&& 31)).toInt8.toInt32))) (Int32.toNatClampNeg 1) (vp_nar .byte ((w1 >>> ((16 : Int32) &&& 31)).toInt8.toInt32))) (Int32.toNatClampNeg 2) (vp_nar .byte ((w1 >>> ((8 : Int32) &&& 31)).toInt8.toInt32))) (Int32.toNatClampNeg 3) (vp_nar .byte ((w1 >>> ((0 : Int32) &&& 31)).toInt8.toInt32))) (Int32.toNatClampNeg 4) (vp_nar .byte ((w2 >>> ((24 : Int32) &&& 31)).toInt8.toInt32))) (Int32.toNatClampNeg 5) (vp_nar .byte ((w2 >>> ((16 : Int32) &&& 31)).toInt8.toInt32))) (Int32.toNatClampNeg 6) (vp_nar .byte ((w2 >>> ((8 : Int32) &&& 31)).toInt8.toInt32))) (Int32.toNatClampNeg 7) (vp_nar .byte ((w2 >>> ((0 : Int32) &&& 31)).toInt8.toInt32))) (Int32.toNatClampNeg 8) (vp_nar .byte ((w3 >>> ((24 : Int32) &&& 31)).toInt8.toInt32))) (Int32.toNatClampNeg 9) (vp_nar .byte ((w3 >>> ((16 : Int32) &&& 31)).toInt8.toInt32))) (Int32.toNatClampNeg 10) (vp_nar .byte ((w3 >>> ((8 : Int32) &&& 31)).toInt8.toInt32))) (Int32.toNatClampNeg 11) (vp_nar .byte ((w3 >>> ((0 : Int32) &&& 31)).toInt8.toInt32))) (Int32.toNatClampNeg 12) (vp_nar .byte ((w4 >>> ((24 : Int32) &&& 31)).toInt8.toInt32))) (Int32.toNatClampNeg 13) (vp_nar .byte ((w4 >>> ((16 : Int32) &&& 31)).toInt8.toInt32))) (Int32.toNatClampNeg 14) (vp_nar .byte ((w4 >>> ((8 : Int32) &&& 31)).toInt8.toInt32))) (Int32.toNatClampNeg 15) (vp_nar .byte ((w4 >>> ((0 : Int32) &&& 31)).toInt8.toInt32)))))] := hD
  refine W.widen (k := 0) (n := 0) (Nat.le_of_ble_eq_true rfl) (Nat.le_of_ble_eq_true rfl) ?_
  refine lv_aload_n hx hb dX8_feed_36 rfl (lv_at hl 0 rfl) ?_
  refine lv_iload hx hb dX8_feed_37 (lv_at hl 5 rfl) ?_
  refine gx_gov (wc := [(h0, .inr (8, [.ref a0, .int 16, v2, v3, v4, v5, v6, v7, v8, v9, v10, v11])), (a0, .inl (cB, 4000, .inl (upd (upd (upd (upd (upd (upd (upd (upd (upd (upd (upd (upd (upd (upd (upd (upd f (Int32.toNatClampNeg 0) (vp_nar .byte ((w1 >>> ((24 : Int32) &&& 31)).toInt8.toInt32))) (Int32.toNatClampNeg 1) (vp_nar .byte ((w1 >>> ((16 : Int32) &&& 31)).toInt8.toInt32))) (Int32.toNatClampNeg 2) (vp_nar .byte ((w1 >>> ((8 : Int32) &&& 31)).toInt8.toInt32))) (Int32.toNatClampNeg 3) (vp_nar .byte ((w1 >>> ((0 : Int32) &&& 31)).toInt8.toInt32))) (Int32.toNatClampNeg 4) (vp_nar .byte ((w2 >>> ((24 : Int32) &&& 31)).toInt8.toInt32))) (Int32.toNatClampNeg 5) (vp_nar .byte ((w2 >>> ((16 : Int32) &&& 31)).toInt8.toInt32))) (Int32.toNatClampNeg 6) (vp_nar .byte ((w2 >>> ((8 : Int32) &&& 31)).toInt8.toInt32))) (Int32.toNatClampNeg 7) (vp_nar .byte ((w2 >>> ((0 : Int32) &&& 31)).toInt8.toInt32))) (Int32.toNatClampNeg 8) (vp_nar .byte ((w3 >>> ((24 : Int32) &&& 31)).toInt8.toInt32))) (Int32.toNatClampNeg 9) (vp_nar .byte ((w3 >>> ((16 : Int32) &&& 31)).toInt8.toInt32))) (Int32.toNatClampNeg 10) (vp_nar .byte ((w3 >>> ((8 : Int32) &&& 31)).toInt8.toInt32))) (Int32.toNatClampNeg 11) (vp_nar .byte ((w3 >>> ((0 : Int32) &&& 31)).toInt8.toInt32))) (Int32.toNatClampNeg 12) (vp_nar .byte ((w4 >>> ((24 : Int32) &&& 31)).toInt8.toInt32))) (Int32.toNatClampNeg 13) (vp_nar .byte ((w4 >>> ((16 : Int32) &&& 31)).toInt8.toInt32))) (Int32.toNatClampNeg 14) (vp_nar .byte ((w4 >>> ((8 : Int32) &&& 31)).toInt8.toInt32))) (Int32.toNatClampNeg 15) (vp_nar .byte ((w4 >>> ((0 : Int32) &&& 31)).toInt8.toInt32)))))]) (wr := []) (va_runV (As := [.int w5]) (rest := []) ⟨hx, hb, hml, hown, hts⟩ (c_X8_feedWord_16 l D cI cB cZ h0 a0 (upd (upd (upd (upd (upd (upd (upd (upd (upd (upd (upd (upd (upd (upd (upd (upd f (Int32.toNatClampNeg 0) (vp_nar .byte ((w1 >>> ((24 : Int32) &&& 31)).toInt8.toInt32))) (Int32.toNatClampNeg 1) (vp_nar .byte ((w1 >>> ((16 : Int32) &&& 31)).toInt8.toInt32))) (Int32.toNatClampNeg 2) (vp_nar .byte ((w1 >>> ((8 : Int32) &&& 31)).toInt8.toInt32))) (Int32.toNatClampNeg 3) (vp_nar .byte ((w1 >>> ((0 : Int32) &&& 31)).toInt8.toInt32))) (Int32.toNatClampNeg 4) (vp_nar .byte ((w2 >>> ((24 : Int32) &&& 31)).toInt8.toInt32))) (Int32.toNatClampNeg 5) (vp_nar .byte ((w2 >>> ((16 : Int32) &&& 31)).toInt8.toInt32))) (Int32.toNatClampNeg 6) (vp_nar .byte ((w2 >>> ((8 : Int32) &&& 31)).toInt8.toInt32))) (Int32.toNatClampNeg 7) (vp_nar .byte ((w2 >>> ((0 : Int32) &&& 31)).toInt8.toInt32))) (Int32.toNatClampNeg 8) (vp_nar .byte ((w3 >>> ((24 : Int32) &&& 31)).toInt8.toInt32))) (Int32.toNatClampNeg 9) (vp_nar .byte ((w3 >>> ((16 : Int32) &&& 31)).toInt8.toInt32))) (Int32.toNatClampNeg 10) (vp_nar .byte ((w3 >>> ((8 : Int32) &&& 31)).toInt8.toInt32))) (Int32.toNatClampNeg 11) (vp_nar .byte ((w3 >>> ((0 : Int32) &&& 31)).toInt8.toInt32))) (Int32.toNatClampNeg 12) (vp_nar .byte ((w4 >>> ((24 : Int32) &&& 31)).toInt8.toInt32))) (Int32.toNatClampNeg 13) (vp_nar .byte ((w4 >>> ((16 : Int32) &&& 31)).toInt8.toInt32))) (Int32.toNatClampNeg 14) (vp_nar .byte ((w4 >>> ((8 : Int32) &&& 31)).toInt8.toInt32))) (Int32.toNatClampNeg 15) (vp_nar .byte ((w4 >>> ((0 : Int32) &&& 31)).toInt8.toInt32))) (v2) (v3) (v4) (v5) (v6) (v7) (v8) (v9) (v10) (v11) w5 _) (cwV 1 hts gP_c_X8_feed__c_X8_feedWord_16 rfl rfl rfl (by decide +kernel) ⟨Nat.le_of_ble_eq_true rfl, Nat.le_of_ble_eq_true rfl⟩) (gx_preV (ci := 8) (q0 := 0) hK gN.nil hP hD [0, 1] rfl rfl rfl rfl) rfl rfl hl.1 rfl (lv_room (Nat.le_of_ble_eq_true rfl)) dX8_feed_39 ⟨Nat.le_of_ble_eq_true rfl, Nat.le_of_ble_eq_true rfl⟩) hP hD hS hA [0, 1] [] rfl rfl rfl (by decide) (fun w1 H locs hp hP hD hS => ?_)
  obtain ⟨rfl⟩ := hp
  have hP : va_P D vwCl [(h0, .inr (8, [.ref a0, .int 20, v2, v3, v4, v5, v6, v7, v8, v9, v10, v11])), (a0, .inl (cB, 4000, .inl (upd (upd (upd (upd (upd (upd (upd (upd (upd (upd (upd (upd (upd (upd (upd (upd (upd (upd (upd (upd f (Int32.toNatClampNeg 0) (vp_nar .byte ((w1 >>> ((24 : Int32) &&& 31)).toInt8.toInt32))) (Int32.toNatClampNeg 1) (vp_nar .byte ((w1 >>> ((16 : Int32) &&& 31)).toInt8.toInt32))) (Int32.toNatClampNeg 2) (vp_nar .byte ((w1 >>> ((8 : Int32) &&& 31)).toInt8.toInt32))) (Int32.toNatClampNeg 3) (vp_nar .byte ((w1 >>> ((0 : Int32) &&& 31)).toInt8.toInt32))) (Int32.toNatClampNeg 4) (vp_nar .byte ((w2 >>> ((24 : Int32) &&& 31)).toInt8.toInt32))) (Int32.toNatClampNeg 5) (vp_nar .byte ((w2 >>> ((16 : Int32) &&& 31)).toInt8.toInt32))) (Int32.toNatClampNeg 6) (vp_nar .byte ((w2 >>> ((8 : Int32) &&& 31)).toInt8.toInt32))) (Int32.toNatClampNeg 7) (vp_nar .byte ((w2 >>> ((0 : Int32) &&& 31)).toInt8.toInt32))) (Int32.toNatClampNeg 8) (vp_nar .byte ((w3 >>> ((24 : Int32) &&& 31)).toInt8.toInt32))) (Int32.toNatClampNeg 9) (vp_nar .byte ((w3 >>> ((16 : Int32) &&& 31)).toInt8.toInt32))) (Int32.toNatClampNeg 10) (vp_nar .byte ((w3 >>> ((8 : Int32) &&& 31)).toInt8.toInt32))) (Int32.toNatClampNeg 11) (vp_nar .byte ((w3 >>> ((0 : Int32) &&& 31)).toInt8.toInt32))) (Int32.toNatClampNeg 12) (vp_nar .byte ((w4 >>> ((24 : Int32) &&& 31)).toInt8.toInt32))) (Int32.toNatClampNeg 13) (vp_nar .byte ((w4 >>> ((16 : Int32) &&& 31)).toInt8.toInt32))) (Int32.toNatClampNeg 14) (vp_nar .byte ((w4 >>> ((8 : Int32) &&& 31)).toInt8.toInt32))) (Int32.toNatClampNeg 15) (vp_nar .byte ((w4 >>> ((0 : Int32) &&& 31)).toInt8.toInt32))) (Int32.toNatClampNeg 16) (vp_nar .byte ((w5 >>> ((24 : Int32) &&& 31)).toInt8.toInt32))) (Int32.toNatClampNeg 17) (vp_nar .byte ((w5 >>> ((16 : Int32) &&& 31)).toInt8.toInt32))) (Int32.toNatClampNeg 18) (vp_nar .byte ((w5 >>> ((8 : Int32) &&& 31)).toInt8.toInt32))) (Int32.toNatClampNeg 19) (vp_nar .byte ((w5 >>> ((0 : Int32) &&& 31)).toInt8.toInt32)))))] H := hP
  have hD : va_D A [(h0, .inr (8, [.ref a0, .int 20, v2, v3, v4, v5, v6, v7, v8, v9, v10, v11])), (a0, .inl (cB, 4000, .inl (upd (upd (upd (upd (upd (upd (upd (upd (upd (upd (upd (upd (upd (upd (upd (upd (upd (upd (upd (upd f (Int32.toNatClampNeg 0) (vp_nar .byte ((w1 >>> ((24 : Int32) &&& 31)).toInt8.toInt32))) (Int32.toNatClampNeg 1) (vp_nar .byte ((w1 >>> ((16 : Int32) &&& 31)).toInt8.toInt32))) (Int32.toNatClampNeg 2) (vp_nar .byte ((w1 >>> ((8 : Int32) &&& 31)).toInt8.toInt32))) (Int32.toNatClampNeg 3) (vp_nar .byte ((w1 >>> ((0 : Int32) &&& 31)).toInt8.toInt32))) (Int32.toNatClampNeg 4) (vp_nar .byte ((w2 >>> ((24 : Int32) &&& 31)).toInt8.toInt32))) (Int32.toNatClampNeg 5) (vp_nar .byte ((w2 >>> ((16 : Int32) &&& 31)).toInt8.toInt32))) (Int32.toNatClampNeg 6) (vp_nar .byte ((w2 >>> ((8 : Int32) &&& 31)).toInt8.toInt32))) (Int32.toNatClampNeg 7) (vp_nar .byte ((w2 >>> ((0 : Int32) &&& 31)).toInt8.toInt32))) (Int32.toNatClampNeg 8) (vp_nar .byte ((w3 >>> ((24 : Int32) &&& 31)).toInt8.toInt32))) (Int32.toNatClampNeg 9) (vp_nar .byte ((w3 >>> ((16 : Int32) &&& 31)).toInt8.toInt32))) (Int32.toNatClampNeg 10) (vp_nar .byte ((w3 >>> ((8 : Int32) &&& 31)).toInt8.toInt32))) (Int32.toNatClampNeg 11) (vp_nar .byte ((w3 >>> ((0 : Int32) &&& 31)).toInt8.toInt32))) (Int32.toNatClampNeg 12) (vp_nar .byte ((w4 >>> ((24 : Int32) &&& 31)).toInt8.toInt32))) (Int32.toNatClampNeg 13) (vp_nar .byte ((w4 >>> ((16 : Int32) &&& 31)).toInt8.toInt32))) (Int32.toNatClampNeg 14) (vp_nar .byte ((w4 >>> ((8 : Int32) &&& 31)).toInt8.toInt32))) (Int32.toNatClampNeg 15) (vp_nar .byte ((w4 >>> ((0 : Int32) &&& 31)).toInt8.toInt32))) (Int32.toNatClampNeg 16) (vp_nar .byte ((w5 >>> ((24 : Int32) &&& 31)).toInt8.toInt32))) (Int32.toNatClampNeg 17) (vp_nar .byte ((w5 >>> ((16 : Int32) &&& 31)).toInt8.toInt32))) (Int32.toNatClampNeg 18) (vp_nar .byte ((w5 >>> ((8 : Int32) &&& 31)).toInt8.toInt32))) (Int32.toNatClampNeg 19) (vp_nar .byte ((w5 >>> ((0 : Int32) &&& 31)).toInt8.toInt32)))))] := hD
  refine W.widen (k := 0) (n := 0) (Nat.le_of_ble_eq_true rfl) (Nat.le_of_ble_eq_true rfl) ?_
  refine lv_aload_n hx hb dX8_feed_42 rfl (lv_at hl 0 rfl) ?_
  refine va_get (D := D) (ci := 8) (v := .int 20) (C := RX8) (T := TX8) (N := 12) hx hb hts (fun _ h => List.mem_cons_of_mem _ (List.mem_append_right _ h)) hown hK hP 0 rfl rfl 1 (by decide) (hts (.fieldLink RX8 62 "LitmusHall" "tapeSize" "I") (by decide +kernel)) (fun _ h9 => h9) rfl dX8_feed_43 ?_
  exact gx_iret hx hb hr hlk hK hP hD hS (Nat.le_of_ble_eq_true rfl) (Nat.le_of_ble_eq_true rfl) dX8_feed_46 ⟨rfl, rfl⟩
def wsP_c_X8_back : List Cond := .code yX8_back cX8_back 2 (some .int) :: ([.fieldLink RX8 62 "LitmusHall" "tapeSize" "I"] ++ wsX80)
set_option maxHeartbeats 4000000 in
set_option maxRecDepth 100000 in
theorem c_X8_back (l : Launch) (D : va_G) (cI cB cZ : ClassId) (h0 : Nat) (t : Int32) (v0 : Value) (v2 : Value) (v3 : Value) (v4 : Value) (v5 : Value) (v6 : Value) (v7 : Value) (v8 : Value) (v9 : Value) (v10 : Value) (v11 : Value) (n : Int32)  : gMi l yX8_back wsP_c_X8_back ({ frames := 0, cells := 0, slots := 0, locals := 0 }) D cI cB cZ [] [.ref h0, .int n] [(h0, .inr (8, [v0, .int t, v2, v3, v4, v5, v6, v7, v8, v9, v10, v11]))] (fun r9 w9 => r9 = (if n < 0 then (-1) else if n ≤ t then t - n else (-1)) ∧ w9 = [(h0, .inr (8, [v0, .int (if n < 0 then t else if n ≤ t then t - n else t), v2, v3, v4, v5, v6, v7, v8, v9, v10, v11]))]) := by
  refine gMi.of (cc := cX8_back) (maxL := 2) (ret := (some .int)) (by decide) rfl (Nat.le_of_ble_eq_true rfl) (fun p e s m below meth c A ls hx hb hr hlk hml hts hown hin hA hP hK hD hS hN hl => ?_)
  have hown : s.vm.findClass RX8 = some m.cls := hown
  have hl : lv_has ls 2 [(0, .ref h0), (1, .int n)] := hl
  refine lv_iload_n hx hb dX8_back_0 rfl (lv_at hl 1 rfl) ?_
  refine lv_if_lt (tgt := 12) hx hb dX8_back_1 (by decide) (fun c_1 => ?_) (fun c_1 => ?_)
  · refine lv_iconst (v := (-1)) hx hb dX8_back_12 (by decide) ?_
    exact gx_iret hx hb hr hlk hK hP hD hS (Nat.le_of_ble_eq_true rfl) (Nat.le_of_ble_eq_true rfl) dX8_back_13 ⟨by first | (simp only [*, ite_true, ite_false]; done) | (subst_vars; rfl) | (subst_vars; simp; done) | (simp_all; done), by first | (simp only [*, ite_true, ite_false]; done) | (subst_vars; rfl) | (subst_vars; simp; done) | (simp_all; done)⟩
  · refine lv_iload_n hx hb dX8_back_4 rfl (lv_at hl 1 rfl) ?_
    refine lv_aload_n hx hb dX8_back_5 rfl (lv_at hl 0 rfl) ?_
    refine va_get (D := D) (ci := 8) (v := .int t) (C := RX8) (T := TX8) (N := 12) hx hb hts (fun _ h => List.mem_cons_of_mem _ (List.mem_append_right _ h)) hown hK hP 0 rfl rfl 1 (by decide) (hts (.fieldLink RX8 62 "LitmusHall" "tapeSize" "I") (by decide +kernel)) (fun _ h9 => h9) rfl dX8_back_6 ?_
    refine lv_icmp_le (tgt := 14) hx hb dX8_back_9 (by decide) (fun c_2 => ?_) (fun c_2 => ?_)
    · refine lv_aload_n hx hb dX8_back_14 rfl (lv_at hl 0 rfl) ?_
      refine lv_dup hx hb dX8_back_15 rfl ?_
      refine va_get (D := D) (ci := 8) (v := .int t) (C := RX8) (T := TX8) (N := 12) hx hb hts (fun _ h => List.mem_cons_of_mem _ (List.mem_append_right _ h)) hown hK hP 0 rfl rfl 1 (by decide) (hts (.fieldLink RX8 62 "LitmusHall" "tapeSize" "I") (by decide +kernel)) (fun _ h9 => h9) rfl dX8_back_16 ?_
      refine lv_iload_n hx hb dX8_back_19 rfl (lv_at hl 1 rfl) ?_
      refine lv_isub hx hb dX8_back_20 ?_
      refine va_put (D := D) (ci := 8) (v := .int (t - n)) (ty := .int) (C := RX8) (T := TX8) (N := 12) hx hb hts (fun _ h => List.mem_cons_of_mem _ (List.mem_append_right _ h)) tyX8 tyX8_ok nmX8 hown hK hP hD hS 0 rfl rfl 1 (by decide) (hts (.fieldLink RX8 62 "LitmusHall" "tapeSize" "I") (by decide +kernel)) (fun _ h9 => h9) rfl (by decide +kernel) rfl rfl (Nat.le_of_ble_eq_true rfl) dX8_back_21 (fun H locs hP hD hS => ?_)
      have hP : va_P D vwCl [(h0, .inr (8, [v0, .int (t - n), v2, v3, v4, v5, v6, v7, v8, v9, v10, v11]))] H := hP
      have hD : va_D A [(h0, .inr (8, [v0, .int (t - n), v2, v3, v4, v5, v6, v7, v8, v9, v10, v11]))] := hD
      refine lv_aload_n hx hb dX8_back_24 rfl (lv_at hl 0 rfl) ?_
      refine va_get (D := D) (ci := 8) (v := .int (t - n)) (C := RX8) (T := TX8) (N := 12) hx hb hts (fun _ h => List.mem_cons_of_mem _ (List.mem_append_right _ h)) hown hK hP 0 rfl rfl 1 (by decide) (hts (.fieldLink RX8 62 "LitmusHall" "tapeSize" "I") (by decide +kernel)) (fun _ h9 => h9) rfl dX8_back_25 ?_
      exact gx_iret hx hb hr hlk hK hP hD hS (Nat.le_of_ble_eq_true rfl) (Nat.le_of_ble_eq_true rfl) dX8_back_28 ⟨by first | (simp only [*, ite_true, ite_false]; done) | (subst_vars; rfl) | (subst_vars; simp; done) | (simp_all; done), by first | (simp only [*, ite_true, ite_false]; done) | (subst_vars; rfl) | (subst_vars; simp; done) | (simp_all; done)⟩
    · refine lv_iconst (v := (-1)) hx hb dX8_back_12 (by decide) ?_
      exact gx_iret hx hb hr hlk hK hP hD hS (Nat.le_of_ble_eq_true rfl) (Nat.le_of_ble_eq_true rfl) dX8_back_13 ⟨by first | (simp only [*, ite_true, ite_false]; done) | (subst_vars; rfl) | (subst_vars; simp; done) | (simp_all; done), by first | (simp only [*, ite_true, ite_false]; done) | (subst_vars; rfl) | (subst_vars; simp; done) | (simp_all; done)⟩
def wsP_c_X8_place : List Cond := .code yX8_place cX8_place 1 (some .int) :: ([.fieldLink RX8 20 "LitmusHall" "faultPlace" "I"] ++ wsX80)
set_option maxHeartbeats 4000000 in
set_option maxRecDepth 100000 in
theorem c_X8_place (l : Launch) (D : va_G) (cI cB cZ : ClassId) (h0 : Nat) (fp : Int32) (v0 : Value) (v1 : Value) (v2 : Value) (v4 : Value) (v5 : Value) (v6 : Value) (v7 : Value) (v8 : Value) (v9 : Value) (v10 : Value) (v11 : Value)  : gMi l yX8_place wsP_c_X8_place ({ frames := 0, cells := 0, slots := 0, locals := 0 }) D cI cB cZ [] [.ref h0] [(h0, .inr (8, [v0, v1, v2, .int fp, v4, v5, v6, v7, v8, v9, v10, v11]))] (fun r9 w9 => r9 = fp ∧ w9 = [(h0, .inr (8, [v0, v1, v2, .int fp, v4, v5, v6, v7, v8, v9, v10, v11]))]) := by
  refine gMi.of (cc := cX8_place) (maxL := 1) (ret := (some .int)) (by decide) rfl (Nat.le_of_ble_eq_true rfl) (fun p e s m below meth c A ls hx hb hr hlk hml hts hown hin hA hP hK hD hS hN hl => ?_)
  have hown : s.vm.findClass RX8 = some m.cls := hown
  have hl : lv_has ls 1 [(0, .ref h0)] := hl
  refine lv_aload_n hx hb dX8_place_0 rfl (lv_at hl 0 rfl) ?_
  refine va_get (D := D) (ci := 8) (v := .int fp) (C := RX8) (T := TX8) (N := 12) hx hb hts (fun _ h => List.mem_cons_of_mem _ (List.mem_append_right _ h)) hown hK hP 0 rfl rfl 3 (by decide) (hts (.fieldLink RX8 20 "LitmusHall" "faultPlace" "I") (by decide +kernel)) (fun _ h9 => h9) rfl dX8_place_1 ?_
  exact gx_iret hx hb hr hlk hK hP hD hS (Nat.le_of_ble_eq_true rfl) (Nat.le_of_ble_eq_true rfl) dX8_place_4 ⟨rfl, rfl⟩
def wsP_c_X8_hasCore : List Cond := .code yX8_hasCore cX8_hasCore 2 (some .boolean) :: ([.fieldLink RX8 79 "LitmusHall" "loaded" "Z"] ++ wsX80)
set_option maxHeartbeats 4000000 in
set_option maxRecDepth 100000 in
theorem c_X8_hasCore (l : Launch) (D : va_G) (cI cB cZ : ClassId) (h0 : Nat) (v0 : Value) (v1 : Value) (v2 : Value) (v3 : Value) (v5 : Value) (v6 : Value) (v7 : Value) (v8 : Value) (v9 : Value) (v10 : Value) (v11 : Value) (k : Int32)  : gMi l yX8_hasCore wsP_c_X8_hasCore ({ frames := 0, cells := 0, slots := 0, locals := 0 }) D cI cB cZ [] [.ref h0, .int k] [(h0, .inr (8, [v0, v1, v2, v3, .int 0, v5, v6, v7, v8, v9, v10, v11]))] (fun r9 w9 => r9 = 0 ∧ w9 = [(h0, .inr (8, [v0, v1, v2, v3, .int 0, v5, v6, v7, v8, v9, v10, v11]))]) := by
  refine gMi.of (cc := cX8_hasCore) (maxL := 2) (ret := (some .boolean)) (by decide) rfl (Nat.le_of_ble_eq_true rfl) (fun p e s m below meth c A ls hx hb hr hlk hml hts hown hin hA hP hK hD hS hN hl => ?_)
  have hown : s.vm.findClass RX8 = some m.cls := hown
  have hl : lv_has ls 2 [(0, .ref h0), (1, .int k)] := hl
  refine lv_aload_n hx hb dX8_hasCore_0 rfl (lv_at hl 0 rfl) ?_
  refine va_get (D := D) (ci := 8) (v := .int 0) (C := RX8) (T := TX8) (N := 12) hx hb hts (fun _ h => List.mem_cons_of_mem _ (List.mem_append_right _ h)) hown hK hP 0 rfl rfl 4 (by decide) (hts (.fieldLink RX8 79 "LitmusHall" "loaded" "Z") (by decide +kernel)) (fun _ h9 => h9) rfl dX8_hasCore_1 ?_
  refine lv_if_eq (tgt := 26) hx hb dX8_hasCore_4 (by decide) (fun _ => ?_) (fun c9 => absurd (by decide) c9)
  refine lv_iconst (v := 0) hx hb dX8_hasCore_26 (by decide) ?_
  exact gx_zret hx hb hr hlk hK hP hD hS (Nat.le_of_ble_eq_true rfl) (Nat.le_of_ble_eq_true rfl) dX8_hasCore_27 rfl ⟨rfl, rfl⟩
def wsP_c_X8_ins : List Cond := .code yX8_ins cX8_ins 4 (some .int) :: ([.methodLink RX8 96 yX8_hasCore, .instanceMethod yX8_hasCore, .selects RX8 yX8_hasCore yX8_hasCore, .initialized RX8, .fieldLink RX8 79 "LitmusHall" "loaded" "Z", .code yX8_hasCore cX8_hasCore 2 (some .boolean)] ++ wsX80)
set_option maxRecDepth 20000 in
theorem gP_c_X8_ins__c_X8_hasCore : GoodIn wsP_c_X8_ins (wsV RX8 96 RX8 yX8_hasCore wsP_c_X8_hasCore) := goodIn_r _ [1, 2, 3, 4, 6, 5, 7, 8, 9, 10, 11, 12, 13, 14, 15, 16, 17, 18] (by decide +kernel) (by decide +kernel)
set_option maxHeartbeats 4000000 in
set_option maxRecDepth 100000 in
theorem c_X8_ins (l : Launch) (D : va_G) (cI cB cZ : ClassId) (h0 : Nat) (v0 : Value) (v1 : Value) (v2 : Value) (v3 : Value) (v5 : Value) (v6 : Value) (v7 : Value) (v8 : Value) (v9 : Value) (v10 : Value) (v11 : Value) (k : Int32) (i : Int32) (what : Int32)  : gMi l yX8_ins wsP_c_X8_ins ({ frames := 1, cells := 0, slots := 0, locals := 21 }) D cI cB cZ [] [.ref h0, .int k, .int i, .int what] [(h0, .inr (8, [v0, v1, v2, v3, .int 0, v5, v6, v7, v8, v9, v10, v11]))] (fun r9 w9 => r9 = (-1) ∧ w9 = [(h0, .inr (8, [v0, v1, v2, v3, .int 0, v5, v6, v7, v8, v9, v10, v11]))]) := by
  refine gMi.of (cc := cX8_ins) (maxL := 4) (ret := (some .int)) (by decide) rfl (Nat.le_of_ble_eq_true rfl) (fun p e s m below meth c A ls hx hb hr hlk hml hts hown hin hA hP hK hD hS hN hl => ?_)
  have hown : s.vm.findClass RX8 = some m.cls := hown
  have hl : lv_has ls 4 [(0, .ref h0), (1, .int k), (2, .int i), (3, .int what)] := hl
  refine lv_aload_n hx hb dX8_ins_0 rfl (lv_at hl 0 rfl) ?_
  refine lv_iload_n hx hb dX8_ins_1 rfl (lv_at hl 1 rfl) ?_
  refine gx_goi (wc := [(h0, .inr (8, [v0, v1, v2, v3, .int 0, v5, v6, v7, v8, v9, v10, v11]))]) (wr := []) (va_runV (As := [.int k]) (rest := []) ⟨hx, hb, hml, hown, hts⟩ (c_X8_hasCore l D cI cB cZ h0 (v0) (v1) (v2) (v3) (v5) (v6) (v7) (v8) (v9) (v10) (v11) k _) (cwV 1 hts gP_c_X8_ins__c_X8_hasCore rfl rfl rfl (by decide +kernel) ⟨Nat.le_of_ble_eq_true rfl, Nat.le_of_ble_eq_true rfl⟩) (gx_preV (ci := 8) (q0 := 0) hK gN.nil hP hD [0] rfl rfl rfl rfl) rfl rfl hl.1 rfl (lv_room (Nat.le_of_ble_eq_true rfl)) dX8_ins_2 ⟨Nat.le_of_ble_eq_true rfl, Nat.le_of_ble_eq_true rfl⟩) hP hD hS hA [0] [] rfl rfl rfl (by decide) (fun r1 w1 H locs hp hP hD hS => ?_)
  obtain ⟨rfl, rfl⟩ := hp
  have hP : va_P D vwCl [(h0, .inr (8, [v0, v1, v2, v3, .int 0, v5, v6, v7, v8, v9, v10, v11]))] H := hP
  have hD : va_D A [(h0, .inr (8, [v0, v1, v2, v3, .int 0, v5, v6, v7, v8, v9, v10, v11]))] := hD
  refine W.widen (k := 0) (n := 0) (Nat.le_of_ble_eq_true rfl) (Nat.le_of_ble_eq_true rfl) ?_
  refine lv_if_eq (tgt := 35) hx hb dX8_ins_5 (by decide) (fun _ => ?_) (fun c9 => absurd (by decide) c9)
  refine lv_iconst (v := (-1)) hx hb dX8_ins_35 (by decide) ?_
  exact gx_iret hx hb hr hlk hK hP hD hS (Nat.le_of_ble_eq_true rfl) (Nat.le_of_ble_eq_true rfl) dX8_ins_36 ⟨rfl, rfl⟩
def wsP_c_X8_begin : List Cond := .code yX8_begin cX8_begin 2 (some .boolean) :: ([.fieldLink RX8 79 "LitmusHall" "loaded" "Z"] ++ wsX80)
set_option maxHeartbeats 4000000 in
set_option maxRecDepth 100000 in
theorem c_X8_begin (l : Launch) (D : va_G) (cI cB cZ : ClassId) (h0 : Nat) (v0 : Value) (v1 : Value) (v2 : Value) (v3 : Value) (v5 : Value) (v6 : Value) (v7 : Value) (v8 : Value) (v9 : Value) (v10 : Value) (v11 : Value) (mode : Int32)  : gMi l yX8_begin wsP_c_X8_begin ({ frames := 0, cells := 0, slots := 0, locals := 0 }) D cI cB cZ [] [.ref h0, .int mode] [(h0, .inr (8, [v0, v1, v2, v3, .int 0, v5, v6, v7, v8, v9, v10, v11]))] (fun r9 w9 => r9 = 0 ∧ w9 = [(h0, .inr (8, [v0, v1, v2, v3, .int 0, v5, v6, v7, v8, v9, v10, v11]))]) := by
  refine gMi.of (cc := cX8_begin) (maxL := 2) (ret := (some .boolean)) (by decide) rfl (Nat.le_of_ble_eq_true rfl) (fun p e s m below meth c A ls hx hb hr hlk hml hts hown hin hA hP hK hD hS hN hl => ?_)
  have hown : s.vm.findClass RX8 = some m.cls := hown
  have hl : lv_has ls 2 [(0, .ref h0), (1, .int mode)] := hl
  refine lv_aload_n hx hb dX8_begin_0 rfl (lv_at hl 0 rfl) ?_
  refine va_get (D := D) (ci := 8) (v := .int 0) (C := RX8) (T := TX8) (N := 12) hx hb hts (fun _ h => List.mem_cons_of_mem _ (List.mem_append_right _ h)) hown hK hP 0 rfl rfl 4 (by decide) (hts (.fieldLink RX8 79 "LitmusHall" "loaded" "Z") (by decide +kernel)) (fun _ h9 => h9) rfl dX8_begin_1 ?_
  refine lv_if_eq (tgt := 14) hx hb dX8_begin_4 (by decide) (fun _ => ?_) (fun c9 => absurd (by decide) c9)
  refine lv_iconst (v := 0) hx hb dX8_begin_14 (by decide) ?_
  exact gx_zret hx hb hr hlk hK hP hD hS (Nat.le_of_ble_eq_true rfl) (Nat.le_of_ble_eq_true rfl) dX8_begin_15 rfl ⟨rfl, rfl⟩
def wsP_c_X8_step : List Cond := .code yX8_step cX8_step 2 (some .boolean) :: ([.fieldLink RX8 34 "LitmusHall" "machine" "LLitmusHall$Machine;", .fieldLink RX8 86 "LitmusHall$Machine" "stands" "Z"] ++ wsX80 ++ wsX30)
set_option maxHeartbeats 4000000 in
set_option maxRecDepth 100000 in
theorem c_X8_step (l : Launch) (D : va_G) (cI cB cZ : ClassId) (h0 : Nat) (a6 : Nat) (v0 : Value) (v1 : Value) (v2 : Value) (v3 : Value) (v4 : Value) (v5 : Value) (v7 : Value) (v8 : Value) (v9 : Value) (v10 : Value) (v11 : Value) (u0 : Value) (u2 : Value) (u3 : Value) (u4 : Value) (s0 : Int32)  : gMi l yX8_step wsP_c_X8_step ({ frames := 0, cells := 0, slots := 0, locals := 0 }) D cI cB cZ [] [.ref h0, .int s0] [(h0, .inr (8, [v0, v1, v2, v3, v4, v5, .ref a6, v7, v8, v9, v10, v11])), (a6, .inr (3, [u0, .int 0, u2, u3, u4]))] (fun r9 w9 => r9 = 0 ∧ w9 = [(h0, .inr (8, [v0, v1, v2, v3, v4, v5, .ref a6, v7, v8, v9, v10, v11])), (a6, .inr (3, [u0, .int 0, u2, u3, u4]))]) := by
  refine gMi.of (cc := cX8_step) (maxL := 2) (ret := (some .boolean)) (by decide) rfl (Nat.le_of_ble_eq_true rfl) (fun p e s m below meth c A ls hx hb hr hlk hml hts hown hin hA hP hK hD hS hN hl => ?_)
  have hown : s.vm.findClass RX8 = some m.cls := hown
  have hl : lv_has ls 2 [(0, .ref h0), (1, .int s0)] := hl
  refine lv_aload_n hx hb dX8_step_0 rfl (lv_at hl 0 rfl) ?_
  refine va_get (D := D) (ci := 8) (v := .ref a6) (C := RX8) (T := TX8) (N := 12) hx hb hts (fun _ h => List.mem_cons_of_mem _ (List.mem_append_left _ (List.mem_append_right _ h))) hown hK hP 0 rfl rfl 6 (by decide) (hts (.fieldLink RX8 34 "LitmusHall" "machine" "LLitmusHall$Machine;") (by decide +kernel)) (fun _ h9 => h9) rfl dX8_step_1 ?_
  refine va_get (D := D) (ci := 3) (v := .int 0) (C := RX3) (T := TX3) (N := 5) hx hb hts (fun _ h => List.mem_cons_of_mem _ (List.mem_append_right _ h)) hown hK hP 1 rfl rfl 1 (by decide) (hts (.fieldLink RX8 86 "LitmusHall$Machine" "stands" "Z") (by decide +kernel)) (fun _ h9 => h9) rfl dX8_step_4 ?_
  refine lv_if_eq (tgt := 29) hx hb dX8_step_7 (by decide) (fun _ => ?_) (fun c9 => absurd (by decide) c9)
  refine lv_iconst (v := 0) hx hb dX8_step_29 (by decide) ?_
  exact gx_zret hx hb hr hlk hK hP hD hS (Nat.le_of_ble_eq_true rfl) (Nat.le_of_ble_eq_true rfl) dX8_step_30 rfl ⟨rfl, rfl⟩
def wsP_c_X8_undo : List Cond := .code yX8_undo cX8_undo 1 (some .boolean) :: ([.fieldLink RX8 34 "LitmusHall" "machine" "LLitmusHall$Machine;", .fieldLink RX8 86 "LitmusHall$Machine" "stands" "Z"] ++ wsX80 ++ wsX30)
set_option maxHeartbeats 4000000 in
set_option maxRecDepth 100000 in
theorem c_X8_undo (l : Launch) (D : va_G) (cI cB cZ : ClassId) (h0 : Nat) (a6 : Nat) (v0 : Value) (v1 : Value) (v2 : Value) (v3 : Value) (v4 : Value) (v5 : Value) (v7 : Value) (v8 : Value) (v9 : Value) (v10 : Value) (v11 : Value) (u0 : Value) (u2 : Value) (u3 : Value) (u4 : Value)  : gMi l yX8_undo wsP_c_X8_undo ({ frames := 0, cells := 0, slots := 0, locals := 0 }) D cI cB cZ [] [.ref h0] [(h0, .inr (8, [v0, v1, v2, v3, v4, v5, .ref a6, v7, v8, v9, v10, v11])), (a6, .inr (3, [u0, .int 0, u2, u3, u4]))] (fun r9 w9 => r9 = 0 ∧ w9 = [(h0, .inr (8, [v0, v1, v2, v3, v4, v5, .ref a6, v7, v8, v9, v10, v11])), (a6, .inr (3, [u0, .int 0, u2, u3, u4]))]) := by
  refine gMi.of (cc := cX8_undo) (maxL := 1) (ret := (some .boolean)) (by decide) rfl (Nat.le_of_ble_eq_true rfl) (fun p e s m below meth c A ls hx hb hr hlk hml hts hown hin hA hP hK hD hS hN hl => ?_)
  have hown : s.vm.findClass RX8 = some m.cls := hown
  have hl : lv_has ls 1 [(0, .ref h0)] := hl
  refine lv_aload_n hx hb dX8_undo_0 rfl (lv_at hl 0 rfl) ?_
  refine va_get (D := D) (ci := 8) (v := .ref a6) (C := RX8) (T := TX8) (N := 12) hx hb hts (fun _ h => List.mem_cons_of_mem _ (List.mem_append_left _ (List.mem_append_right _ h))) hown hK hP 0 rfl rfl 6 (by decide) (hts (.fieldLink RX8 34 "LitmusHall" "machine" "LLitmusHall$Machine;") (by decide +kernel)) (fun _ h9 => h9) rfl dX8_undo_1 ?_
  refine va_get (D := D) (ci := 3) (v := .int 0) (C := RX3) (T := TX3) (N := 5) hx hb hts (fun _ h => List.mem_cons_of_mem _ (List.mem_append_right _ h)) hown hK hP 1 rfl rfl 1 (by decide) (hts (.fieldLink RX8 86 "LitmusHall$Machine" "stands" "Z") (by decide +kernel)) (fun _ h9 => h9) rfl dX8_undo_4 ?_
  refine lv_if_eq (tgt := 28) hx hb dX8_undo_7 (by decide) (fun _ => ?_) (fun c9 => absurd (by decide) c9)
  refine lv_iconst (v := 0) hx hb dX8_undo_28 (by decide) ?_
  exact gx_zret hx hb hr hlk hK hP hD hS (Nat.le_of_ble_eq_true rfl) (Nat.le_of_ble_eq_true rfl) dX8_undo_29 rfl ⟨rfl, rfl⟩
def wsP_c_X8_register : List Cond := .code yX8_register cX8_register 3 (some .int) :: ([.fieldLink RX8 34 "LitmusHall" "machine" "LLitmusHall$Machine;", .fieldLink RX8 86 "LitmusHall$Machine" "stands" "Z"] ++ wsX80 ++ wsX30)
set_option maxHeartbeats 4000000 in
set_option maxRecDepth 100000 in
theorem c_X8_register (l : Launch) (D : va_G) (cI cB cZ : ClassId) (h0 : Nat) (a6 : Nat) (v0 : Value) (v1 : Value) (v2 : Value) (v3 : Value) (v4 : Value) (v5 : Value) (v7 : Value) (v8 : Value) (v9 : Value) (v10 : Value) (v11 : Value) (u0 : Value) (u2 : Value) (u3 : Value) (u4 : Value) (k : Int32) (r : Int32)  : gMi l yX8_register wsP_c_X8_register ({ frames := 0, cells := 0, slots := 0, locals := 0 }) D cI cB cZ [] [.ref h0, .int k, .int r] [(h0, .inr (8, [v0, v1, v2, v3, v4, v5, .ref a6, v7, v8, v9, v10, v11])), (a6, .inr (3, [u0, .int 0, u2, u3, u4]))] (fun r9 w9 => r9 = 0 ∧ w9 = [(h0, .inr (8, [v0, v1, v2, v3, v4, v5, .ref a6, v7, v8, v9, v10, v11])), (a6, .inr (3, [u0, .int 0, u2, u3, u4]))]) := by
  refine gMi.of (cc := cX8_register) (maxL := 3) (ret := (some .int)) (by decide) rfl (Nat.le_of_ble_eq_true rfl) (fun p e s m below meth c A ls hx hb hr hlk hml hts hown hin hA hP hK hD hS hN hl => ?_)
  have hown : s.vm.findClass RX8 = some m.cls := hown
  have hl : lv_has ls 3 [(0, .ref h0), (1, .int k), (2, .int r)] := hl
  refine lv_aload_n hx hb dX8_register_0 rfl (lv_at hl 0 rfl) ?_
  refine va_get (D := D) (ci := 8) (v := .ref a6) (C := RX8) (T := TX8) (N := 12) hx hb hts (fun _ h => List.mem_cons_of_mem _ (List.mem_append_left _ (List.mem_append_right _ h))) hown hK hP 0 rfl rfl 6 (by decide) (hts (.fieldLink RX8 34 "LitmusHall" "machine" "LLitmusHall$Machine;") (by decide +kernel)) (fun _ h9 => h9) rfl dX8_register_1 ?_
  refine va_get (D := D) (ci := 3) (v := .int 0) (C := RX3) (T := TX3) (N := 5) hx hb hts (fun _ h => List.mem_cons_of_mem _ (List.mem_append_right _ h)) hown hK hP 1 rfl rfl 1 (by decide) (hts (.fieldLink RX8 86 "LitmusHall$Machine" "stands" "Z") (by decide +kernel)) (fun _ h9 => h9) rfl dX8_register_4 ?_
  refine lv_if_eq (tgt := 27) hx hb dX8_register_7 (by decide) (fun _ => ?_) (fun c9 => absurd (by decide) c9)
  refine lv_iconst (v := 0) hx hb dX8_register_27 (by decide) ?_
  exact gx_iret hx hb hr hlk hK hP hD hS (Nat.le_of_ble_eq_true rfl) (Nat.le_of_ble_eq_true rfl) dX8_register_28 ⟨rfl, rfl⟩
def wsP_c_X8_memory : List Cond := .code yX8_memory cX8_memory 2 (some .int) :: ([.fieldLink RX8 34 "LitmusHall" "machine" "LLitmusHall$Machine;", .fieldLink RX8 86 "LitmusHall$Machine" "stands" "Z"] ++ wsX80 ++ wsX30)
set_option maxHeartbeats 4000000 in
set_option maxRecDepth 100000 in
theorem c_X8_memory (l : Launch) (D : va_G) (cI cB cZ : ClassId) (h0 : Nat) (a6 : Nat) (v0 : Value) (v1 : Value) (v2 : Value) (v3 : Value) (v4 : Value) (v5 : Value) (v7 : Value) (v8 : Value) (v9 : Value) (v10 : Value) (v11 : Value) (u0 : Value) (u2 : Value) (u3 : Value) (u4 : Value) (k : Int32)  : gMi l yX8_memory wsP_c_X8_memory ({ frames := 0, cells := 0, slots := 0, locals := 0 }) D cI cB cZ [] [.ref h0, .int k] [(h0, .inr (8, [v0, v1, v2, v3, v4, v5, .ref a6, v7, v8, v9, v10, v11])), (a6, .inr (3, [u0, .int 0, u2, u3, u4]))] (fun r9 w9 => r9 = 0 ∧ w9 = [(h0, .inr (8, [v0, v1, v2, v3, v4, v5, .ref a6, v7, v8, v9, v10, v11])), (a6, .inr (3, [u0, .int 0, u2, u3, u4]))]) := by
  refine gMi.of (cc := cX8_memory) (maxL := 2) (ret := (some .int)) (by decide) rfl (Nat.le_of_ble_eq_true rfl) (fun p e s m below meth c A ls hx hb hr hlk hml hts hown hin hA hP hK hD hS hN hl => ?_)
  have hown : s.vm.findClass RX8 = some m.cls := hown
  have hl : lv_has ls 2 [(0, .ref h0), (1, .int k)] := hl
  refine lv_aload_n hx hb dX8_memory_0 rfl (lv_at hl 0 rfl) ?_
  refine va_get (D := D) (ci := 8) (v := .ref a6) (C := RX8) (T := TX8) (N := 12) hx hb hts (fun _ h => List.mem_cons_of_mem _ (List.mem_append_left _ (List.mem_append_right _ h))) hown hK hP 0 rfl rfl 6 (by decide) (hts (.fieldLink RX8 34 "LitmusHall" "machine" "LLitmusHall$Machine;") (by decide +kernel)) (fun _ h9 => h9) rfl dX8_memory_1 ?_
  refine va_get (D := D) (ci := 3) (v := .int 0) (C := RX3) (T := TX3) (N := 5) hx hb hts (fun _ h => List.mem_cons_of_mem _ (List.mem_append_right _ h)) hown hK hP 1 rfl rfl 1 (by decide) (hts (.fieldLink RX8 86 "LitmusHall$Machine" "stands" "Z") (by decide +kernel)) (fun _ h9 => h9) rfl dX8_memory_4 ?_
  refine lv_if_eq (tgt := 19) hx hb dX8_memory_7 (by decide) (fun _ => ?_) (fun c9 => absurd (by decide) c9)
  refine lv_iconst (v := 0) hx hb dX8_memory_19 (by decide) ?_
  exact gx_iret hx hb hr hlk hK hP hD hS (Nat.le_of_ble_eq_true rfl) (Nat.le_of_ble_eq_true rfl) dX8_memory_20 ⟨rfl, rfl⟩
def wsP_c_X8_next : List Cond := .code yX8_next cX8_next 2 (some .int) :: ([.fieldLink RX8 34 "LitmusHall" "machine" "LLitmusHall$Machine;", .fieldLink RX8 86 "LitmusHall$Machine" "stands" "Z"] ++ wsX80 ++ wsX30)
set_option maxHeartbeats 4000000 in
set_option maxRecDepth 100000 in
theorem c_X8_next (l : Launch) (D : va_G) (cI cB cZ : ClassId) (h0 : Nat) (a6 : Nat) (v0 : Value) (v1 : Value) (v2 : Value) (v3 : Value) (v4 : Value) (v5 : Value) (v7 : Value) (v8 : Value) (v9 : Value) (v10 : Value) (v11 : Value) (u0 : Value) (u2 : Value) (u3 : Value) (u4 : Value) (k : Int32)  : gMi l yX8_next wsP_c_X8_next ({ frames := 0, cells := 0, slots := 0, locals := 0 }) D cI cB cZ [] [.ref h0, .int k] [(h0, .inr (8, [v0, v1, v2, v3, v4, v5, .ref a6, v7, v8, v9, v10, v11])), (a6, .inr (3, [u0, .int 0, u2, u3, u4]))] (fun r9 w9 => r9 = (-1) ∧ w9 = [(h0, .inr (8, [v0, v1, v2, v3, v4, v5, .ref a6, v7, v8, v9, v10, v11])), (a6, .inr (3, [u0, .int 0, u2, u3, u4]))]) := by
  refine gMi.of (cc := cX8_next) (maxL := 2) (ret := (some .int)) (by decide) rfl (Nat.le_of_ble_eq_true rfl) (fun p e s m below meth c A ls hx hb hr hlk hml hts hown hin hA hP hK hD hS hN hl => ?_)
  have hown : s.vm.findClass RX8 = some m.cls := hown
  have hl : lv_has ls 2 [(0, .ref h0), (1, .int k)] := hl
  refine lv_aload_n hx hb dX8_next_0 rfl (lv_at hl 0 rfl) ?_
  refine va_get (D := D) (ci := 8) (v := .ref a6) (C := RX8) (T := TX8) (N := 12) hx hb hts (fun _ h => List.mem_cons_of_mem _ (List.mem_append_left _ (List.mem_append_right _ h))) hown hK hP 0 rfl rfl 6 (by decide) (hts (.fieldLink RX8 34 "LitmusHall" "machine" "LLitmusHall$Machine;") (by decide +kernel)) (fun _ h9 => h9) rfl dX8_next_1 ?_
  refine va_get (D := D) (ci := 3) (v := .int 0) (C := RX3) (T := TX3) (N := 5) hx hb hts (fun _ h => List.mem_cons_of_mem _ (List.mem_append_right _ h)) hown hK hP 1 rfl rfl 1 (by decide) (hts (.fieldLink RX8 86 "LitmusHall$Machine" "stands" "Z") (by decide +kernel)) (fun _ h9 => h9) rfl dX8_next_4 ?_
  refine lv_if_eq (tgt := 32) hx hb dX8_next_7 (by decide) (fun _ => ?_) (fun c9 => absurd (by decide) c9)
  refine lv_iconst (v := (-1)) hx hb dX8_next_32 (by decide) ?_
  exact gx_iret hx hb hr hlk hK hP hD hS (Nat.le_of_ble_eq_true rfl) (Nat.le_of_ble_eq_true rfl) dX8_next_33 ⟨rfl, rfl⟩
def wsP_c_X8_store : List Cond := .code yX8_store cX8_store 4 (some .int) :: ([.fieldLink RX8 34 "LitmusHall" "machine" "LLitmusHall$Machine;", .fieldLink RX8 86 "LitmusHall$Machine" "stands" "Z"] ++ wsX80 ++ wsX30)
set_option maxHeartbeats 4000000 in
set_option maxRecDepth 100000 in
theorem c_X8_store (l : Launch) (D : va_G) (cI cB cZ : ClassId) (h0 : Nat) (a6 : Nat) (v0 : Value) (v1 : Value) (v2 : Value) (v3 : Value) (v4 : Value) (v5 : Value) (v7 : Value) (v8 : Value) (v9 : Value) (v10 : Value) (v11 : Value) (u0 : Value) (u2 : Value) (u3 : Value) (u4 : Value) (k : Int32) (i : Int32) (what : Int32)  : gMi l yX8_store wsP_c_X8_store ({ frames := 0, cells := 0, slots := 0, locals := 0 }) D cI cB cZ [] [.ref h0, .int k, .int i, .int what] [(h0, .inr (8, [v0, v1, v2, v3, v4, v5, .ref a6, v7, v8, v9, v10, v11])), (a6, .inr (3, [u0, .int 0, u2, u3, u4]))] (fun r9 w9 => r9 = (-1) ∧ w9 = [(h0, .inr (8, [v0, v1, v2, v3, v4, v5, .ref a6, v7, v8, v9, v10, v11])), (a6, .inr (3, [u0, .int 0, u2, u3, u4]))]) := by
  refine gMi.of (cc := cX8_store) (maxL := 4) (ret := (some .int)) (by decide) rfl (Nat.le_of_ble_eq_true rfl) (fun p e s m below meth c A ls hx hb hr hlk hml hts hown hin hA hP hK hD hS hN hl => ?_)
  have hown : s.vm.findClass RX8 = some m.cls := hown
  have hl : lv_has ls 4 [(0, .ref h0), (1, .int k), (2, .int i), (3, .int what)] := hl
  refine lv_aload_n hx hb dX8_store_0 rfl (lv_at hl 0 rfl) ?_
  refine va_get (D := D) (ci := 8) (v := .ref a6) (C := RX8) (T := TX8) (N := 12) hx hb hts (fun _ h => List.mem_cons_of_mem _ (List.mem_append_left _ (List.mem_append_right _ h))) hown hK hP 0 rfl rfl 6 (by decide) (hts (.fieldLink RX8 34 "LitmusHall" "machine" "LLitmusHall$Machine;") (by decide +kernel)) (fun _ h9 => h9) rfl dX8_store_1 ?_
  refine va_get (D := D) (ci := 3) (v := .int 0) (C := RX3) (T := TX3) (N := 5) hx hb hts (fun _ h => List.mem_cons_of_mem _ (List.mem_append_right _ h)) hown hK hP 1 rfl rfl 1 (by decide) (hts (.fieldLink RX8 86 "LitmusHall$Machine" "stands" "Z") (by decide +kernel)) (fun _ h9 => h9) rfl dX8_store_4 ?_
  refine lv_if_eq (tgt := 37) hx hb dX8_store_7 (by decide) (fun _ => ?_) (fun c9 => absurd (by decide) c9)
  refine lv_iconst (v := (-1)) hx hb dX8_store_37 (by decide) ?_
  exact gx_iret hx hb hr hlk hK hP hD hS (Nat.le_of_ble_eq_true rfl) (Nat.le_of_ble_eq_true rfl) dX8_store_38 ⟨rfl, rfl⟩
def wsP_c_X8_outcomes : List Cond := .code yX8_outcomes cX8_outcomes 3 (some .int) :: ([.fieldLink RX8 79 "LitmusHall" "loaded" "Z"] ++ wsX80)
set_option maxHeartbeats 4000000 in
set_option maxRecDepth 100000 in
theorem c_X8_outcomes (l : Launch) (D : va_G) (cI cB cZ : ClassId) (h0 : Nat) (v0 : Value) (v1 : Value) (v2 : Value) (v3 : Value) (v5 : Value) (v6 : Value) (v7 : Value) (v8 : Value) (v9 : Value) (v10 : Value) (v11 : Value) (mode : Int32)  : gMi l yX8_outcomes wsP_c_X8_outcomes ({ frames := 0, cells := 0, slots := 0, locals := 0 }) D cI cB cZ [] [.ref h0, .int mode] [(h0, .inr (8, [v0, v1, v2, v3, .int 0, v5, v6, v7, v8, v9, v10, v11]))] (fun r9 w9 => r9 = (-1) ∧ w9 = [(h0, .inr (8, [v0, v1, v2, v3, .int 0, v5, v6, v7, v8, v9, v10, v11]))]) := by
  refine gMi.of (cc := cX8_outcomes) (maxL := 3) (ret := (some .int)) (by decide) rfl (Nat.le_of_ble_eq_true rfl) (fun p e s m below meth c A ls hx hb hr hlk hml hts hown hin hA hP hK hD hS hN hl => ?_)
  have hown : s.vm.findClass RX8 = some m.cls := hown
  have hl : lv_has ls 3 [(0, .ref h0), (1, .int mode)] := hl
  refine lv_aload_n hx hb dX8_outcomes_0 rfl (lv_at hl 0 rfl) ?_
  refine va_get (D := D) (ci := 8) (v := .int 0) (C := RX8) (T := TX8) (N := 12) hx hb hts (fun _ h => List.mem_cons_of_mem _ (List.mem_append_right _ h)) hown hK hP 0 rfl rfl 4 (by decide) (hts (.fieldLink RX8 79 "LitmusHall" "loaded" "Z") (by decide +kernel)) (fun _ h9 => h9) rfl dX8_outcomes_1 ?_
  refine lv_if_eq (tgt := 14) hx hb dX8_outcomes_4 (by decide) (fun _ => ?_) (fun c9 => absurd (by decide) c9)
  refine lv_iconst (v := (-1)) hx hb dX8_outcomes_14 (by decide) ?_
  exact gx_iret hx hb hr hlk hK hP hD hS (Nat.le_of_ble_eq_true rfl) (Nat.le_of_ble_eq_true rfl) dX8_outcomes_15 ⟨rfl, rfl⟩
def wsP_c_X8_outcome : List Cond := .code yX8_outcome cX8_outcome 5 (some .int) :: ([.fieldLink RX8 79 "LitmusHall" "loaded" "Z"] ++ wsX80)
set_option maxHeartbeats 4000000 in
set_option maxRecDepth 100000 in
theorem c_X8_outcome (l : Launch) (D : va_G) (cI cB cZ : ClassId) (h0 : Nat) (v0 : Value) (v1 : Value) (v2 : Value) (v3 : Value) (v5 : Value) (v6 : Value) (v7 : Value) (v8 : Value) (v9 : Value) (v10 : Value) (v11 : Value) (mode : Int32) (n : Int32) (i : Int32)  : gMi l yX8_outcome wsP_c_X8_outcome ({ frames := 0, cells := 0, slots := 0, locals := 0 }) D cI cB cZ [] [.ref h0, .int mode, .int n, .int i] [(h0, .inr (8, [v0, v1, v2, v3, .int 0, v5, v6, v7, v8, v9, v10, v11]))] (fun r9 w9 => r9 = 0 ∧ w9 = [(h0, .inr (8, [v0, v1, v2, v3, .int 0, v5, v6, v7, v8, v9, v10, v11]))]) := by
  refine gMi.of (cc := cX8_outcome) (maxL := 5) (ret := (some .int)) (by decide) rfl (Nat.le_of_ble_eq_true rfl) (fun p e s m below meth c A ls hx hb hr hlk hml hts hown hin hA hP hK hD hS hN hl => ?_)
  have hown : s.vm.findClass RX8 = some m.cls := hown
  have hl : lv_has ls 5 [(0, .ref h0), (1, .int mode), (2, .int n), (3, .int i)] := hl
  refine lv_aload_n hx hb dX8_outcome_0 rfl (lv_at hl 0 rfl) ?_
  refine va_get (D := D) (ci := 8) (v := .int 0) (C := RX8) (T := TX8) (N := 12) hx hb hts (fun _ h => List.mem_cons_of_mem _ (List.mem_append_right _ h)) hown hK hP 0 rfl rfl 4 (by decide) (hts (.fieldLink RX8 79 "LitmusHall" "loaded" "Z") (by decide +kernel)) (fun _ h9 => h9) rfl dX8_outcome_1 ?_
  refine lv_if_eq (tgt := 24) hx hb dX8_outcome_4 (by decide) (fun _ => ?_) (fun c9 => absurd (by decide) c9)
  refine lv_iconst (v := 0) hx hb dX8_outcome_24 (by decide) ?_
  exact gx_iret hx hb hr hlk hK hP hD hS (Nat.le_of_ble_eq_true rfl) (Nat.le_of_ble_eq_true rfl) dX8_outcome_25 ⟨rfl, rfl⟩
def wsP_c_X8_schedule : List Cond := .code yX8_schedule cX8_schedule 5 (some .int) :: ([.fieldLink RX8 79 "LitmusHall" "loaded" "Z"] ++ wsX80)
set_option maxHeartbeats 4000000 in
set_option maxRecDepth 100000 in
theorem c_X8_schedule (l : Launch) (D : va_G) (cI cB cZ : ClassId) (h0 : Nat) (v0 : Value) (v1 : Value) (v2 : Value) (v3 : Value) (v5 : Value) (v6 : Value) (v7 : Value) (v8 : Value) (v9 : Value) (v10 : Value) (v11 : Value) (mode : Int32) (n : Int32) (i : Int32)  : gMi l yX8_schedule wsP_c_X8_schedule ({ frames := 0, cells := 0, slots := 0, locals := 0 }) D cI cB cZ [] [.ref h0, .int mode, .int n, .int i] [(h0, .inr (8, [v0, v1, v2, v3, .int 0, v5, v6, v7, v8, v9, v10, v11]))] (fun r9 w9 => r9 = (-1) ∧ w9 = [(h0, .inr (8, [v0, v1, v2, v3, .int 0, v5, v6, v7, v8, v9, v10, v11]))]) := by
  refine gMi.of (cc := cX8_schedule) (maxL := 5) (ret := (some .int)) (by decide) rfl (Nat.le_of_ble_eq_true rfl) (fun p e s m below meth c A ls hx hb hr hlk hml hts hown hin hA hP hK hD hS hN hl => ?_)
  have hown : s.vm.findClass RX8 = some m.cls := hown
  have hl : lv_has ls 5 [(0, .ref h0), (1, .int mode), (2, .int n), (3, .int i)] := hl
  refine lv_aload_n hx hb dX8_schedule_0 rfl (lv_at hl 0 rfl) ?_
  refine va_get (D := D) (ci := 8) (v := .int 0) (C := RX8) (T := TX8) (N := 12) hx hb hts (fun _ h => List.mem_cons_of_mem _ (List.mem_append_right _ h)) hown hK hP 0 rfl rfl 4 (by decide) (hts (.fieldLink RX8 79 "LitmusHall" "loaded" "Z") (by decide +kernel)) (fun _ h9 => h9) rfl dX8_schedule_1 ?_
  refine lv_if_eq (tgt := 14) hx hb dX8_schedule_4 (by decide) (fun _ => ?_) (fun c9 => absurd (by decide) c9)
  refine lv_iconst (v := (-1)) hx hb dX8_schedule_14 (by decide) ?_
  exact gx_iret hx hb hr hlk hK hP hD hS (Nat.le_of_ble_eq_true rfl) (Nat.le_of_ble_eq_true rfl) dX8_schedule_15 ⟨rfl, rfl⟩
def wsP_c_X8_more : List Cond := .code yX8_more cX8_more 4 (some .int) :: ([.fieldLink RX8 79 "LitmusHall" "loaded" "Z"] ++ wsX80)
set_option maxHeartbeats 4000000 in
set_option maxRecDepth 100000 in
theorem c_X8_more (l : Launch) (D : va_G) (cI cB cZ : ClassId) (h0 : Nat) (v0 : Value) (v1 : Value) (v2 : Value) (v3 : Value) (v5 : Value) (v6 : Value) (v7 : Value) (v8 : Value) (v9 : Value) (v10 : Value) (v11 : Value) (i : Int32)  : gMi l yX8_more wsP_c_X8_more ({ frames := 0, cells := 0, slots := 0, locals := 0 }) D cI cB cZ [] [.ref h0, .int i] [(h0, .inr (8, [v0, v1, v2, v3, .int 0, v5, v6, v7, v8, v9, v10, v11]))] (fun r9 w9 => r9 = (-1) ∧ w9 = [(h0, .inr (8, [v0, v1, v2, v3, .int 0, v5, v6, v7, v8, v9, v10, v11]))]) := by
  refine gMi.of (cc := cX8_more) (maxL := 4) (ret := (some .int)) (by decide) rfl (Nat.le_of_ble_eq_true rfl) (fun p e s m below meth c A ls hx hb hr hlk hml hts hown hin hA hP hK hD hS hN hl => ?_)
  have hown : s.vm.findClass RX8 = some m.cls := hown
  have hl : lv_has ls 4 [(0, .ref h0), (1, .int i)] := hl
  refine lv_aload_n hx hb dX8_more_0 rfl (lv_at hl 0 rfl) ?_
  refine va_get (D := D) (ci := 8) (v := .int 0) (C := RX8) (T := TX8) (N := 12) hx hb hts (fun _ h => List.mem_cons_of_mem _ (List.mem_append_right _ h)) hown hK hP 0 rfl rfl 4 (by decide) (hts (.fieldLink RX8 79 "LitmusHall" "loaded" "Z") (by decide +kernel)) (fun _ h9 => h9) rfl dX8_more_1 ?_
  refine lv_if_ne (tgt := 9) hx hb dX8_more_4 (by decide) (fun c9 => absurd (by decide) c9) (fun _ => ?_)
  refine lv_iconst (v := (-1)) hx hb dX8_more_7 (by decide) ?_
  exact gx_iret hx hb hr hlk hK hP hD hS (Nat.le_of_ble_eq_true rfl) (Nat.le_of_ble_eq_true rfl) dX8_more_8 ⟨rfl, rfl⟩
def wsP_c_X8_race : List Cond := .code yX8_race cX8_race 1 (some .int) :: ([.fieldLink RX8 79 "LitmusHall" "loaded" "Z"] ++ wsX80)
set_option maxHeartbeats 4000000 in
set_option maxRecDepth 100000 in
theorem c_X8_race (l : Launch) (D : va_G) (cI cB cZ : ClassId) (h0 : Nat) (v0 : Value) (v1 : Value) (v2 : Value) (v3 : Value) (v5 : Value) (v6 : Value) (v7 : Value) (v8 : Value) (v9 : Value) (v10 : Value) (v11 : Value)  : gMi l yX8_race wsP_c_X8_race ({ frames := 0, cells := 0, slots := 0, locals := 0 }) D cI cB cZ [] [.ref h0] [(h0, .inr (8, [v0, v1, v2, v3, .int 0, v5, v6, v7, v8, v9, v10, v11]))] (fun r9 w9 => r9 = (-1) ∧ w9 = [(h0, .inr (8, [v0, v1, v2, v3, .int 0, v5, v6, v7, v8, v9, v10, v11]))]) := by
  refine gMi.of (cc := cX8_race) (maxL := 1) (ret := (some .int)) (by decide) rfl (Nat.le_of_ble_eq_true rfl) (fun p e s m below meth c A ls hx hb hr hlk hml hts hown hin hA hP hK hD hS hN hl => ?_)
  have hown : s.vm.findClass RX8 = some m.cls := hown
  have hl : lv_has ls 1 [(0, .ref h0)] := hl
  refine lv_aload_n hx hb dX8_race_0 rfl (lv_at hl 0 rfl) ?_
  refine va_get (D := D) (ci := 8) (v := .int 0) (C := RX8) (T := TX8) (N := 12) hx hb hts (fun _ h => List.mem_cons_of_mem _ (List.mem_append_right _ h)) hown hK hP 0 rfl rfl 4 (by decide) (hts (.fieldLink RX8 79 "LitmusHall" "loaded" "Z") (by decide +kernel)) (fun _ h9 => h9) rfl dX8_race_1 ?_
  refine lv_if_ne (tgt := 9) hx hb dX8_race_4 (by decide) (fun c9 => absurd (by decide) c9) (fun _ => ?_)
  refine lv_iconst (v := (-1)) hx hb dX8_race_7 (by decide) ?_
  exact gx_iret hx hb hr hlk hK hP hD hS (Nat.le_of_ble_eq_true rfl) (Nat.le_of_ble_eq_true rfl) dX8_race_8 ⟨rfl, rfl⟩
def wsP_c_X8_racer : List Cond := .code yX8_racer cX8_racer 2 (some .int) :: ([.fieldLink RX8 79 "LitmusHall" "loaded" "Z"] ++ wsX80)
set_option maxHeartbeats 4000000 in
set_option maxRecDepth 100000 in
theorem c_X8_racer (l : Launch) (D : va_G) (cI cB cZ : ClassId) (h0 : Nat) (v0 : Value) (v1 : Value) (v2 : Value) (v3 : Value) (v5 : Value) (v6 : Value) (v7 : Value) (v8 : Value) (v9 : Value) (v10 : Value) (v11 : Value) (what : Int32)  : gMi l yX8_racer wsP_c_X8_racer ({ frames := 0, cells := 0, slots := 0, locals := 0 }) D cI cB cZ [] [.ref h0, .int what] [(h0, .inr (8, [v0, v1, v2, v3, .int 0, v5, v6, v7, v8, v9, v10, v11]))] (fun r9 w9 => r9 = (-1) ∧ w9 = [(h0, .inr (8, [v0, v1, v2, v3, .int 0, v5, v6, v7, v8, v9, v10, v11]))]) := by
  refine gMi.of (cc := cX8_racer) (maxL := 2) (ret := (some .int)) (by decide) rfl (Nat.le_of_ble_eq_true rfl) (fun p e s m below meth c A ls hx hb hr hlk hml hts hown hin hA hP hK hD hS hN hl => ?_)
  have hown : s.vm.findClass RX8 = some m.cls := hown
  have hl : lv_has ls 2 [(0, .ref h0), (1, .int what)] := hl
  refine lv_aload_n hx hb dX8_racer_0 rfl (lv_at hl 0 rfl) ?_
  refine va_get (D := D) (ci := 8) (v := .int 0) (C := RX8) (T := TX8) (N := 12) hx hb hts (fun _ h => List.mem_cons_of_mem _ (List.mem_append_right _ h)) hown hK hP 0 rfl rfl 4 (by decide) (hts (.fieldLink RX8 79 "LitmusHall" "loaded" "Z") (by decide +kernel)) (fun _ h9 => h9) rfl dX8_racer_1 ?_
  refine lv_if_ne (tgt := 9) hx hb dX8_racer_4 (by decide) (fun c9 => absurd (by decide) c9) (fun _ => ?_)
  refine lv_iconst (v := (-1)) hx hb dX8_racer_7 (by decide) ?_
  exact gx_iret hx hb hr hlk hK hP hD hS (Nat.le_of_ble_eq_true rfl) (Nat.le_of_ble_eq_true rfl) dX8_racer_8 ⟨rfl, rfl⟩
def wsP_c_X8_cure : List Cond := .code yX8_cure cX8_cure 3 (some .int) :: ([.fieldLink RX8 79 "LitmusHall" "loaded" "Z"] ++ wsX80)
set_option maxHeartbeats 4000000 in
set_option maxRecDepth 100000 in
theorem c_X8_cure (l : Launch) (D : va_G) (cI cB cZ : ClassId) (h0 : Nat) (v0 : Value) (v1 : Value) (v2 : Value) (v3 : Value) (v5 : Value) (v6 : Value) (v7 : Value) (v8 : Value) (v9 : Value) (v10 : Value) (v11 : Value) (n : Int32)  : gMi l yX8_cure wsP_c_X8_cure ({ frames := 0, cells := 0, slots := 0, locals := 0 }) D cI cB cZ [] [.ref h0, .int n] [(h0, .inr (8, [v0, v1, v2, v3, .int 0, v5, v6, v7, v8, v9, v10, v11]))] (fun r9 w9 => r9 = (-1) ∧ w9 = [(h0, .inr (8, [v0, v1, v2, v3, .int 0, v5, v6, v7, v8, v9, v10, v11]))]) := by
  refine gMi.of (cc := cX8_cure) (maxL := 3) (ret := (some .int)) (by decide) rfl (Nat.le_of_ble_eq_true rfl) (fun p e s m below meth c A ls hx hb hr hlk hml hts hown hin hA hP hK hD hS hN hl => ?_)
  have hown : s.vm.findClass RX8 = some m.cls := hown
  have hl : lv_has ls 3 [(0, .ref h0), (1, .int n)] := hl
  refine lv_aload_n hx hb dX8_cure_0 rfl (lv_at hl 0 rfl) ?_
  refine va_get (D := D) (ci := 8) (v := .int 0) (C := RX8) (T := TX8) (N := 12) hx hb hts (fun _ h => List.mem_cons_of_mem _ (List.mem_append_right _ h)) hown hK hP 0 rfl rfl 4 (by decide) (hts (.fieldLink RX8 79 "LitmusHall" "loaded" "Z") (by decide +kernel)) (fun _ h9 => h9) rfl dX8_cure_1 ?_
  refine lv_if_eq (tgt := 16) hx hb dX8_cure_4 (by decide) (fun _ => ?_) (fun c9 => absurd (by decide) c9)
  refine lv_iconst (v := (-1)) hx hb dX8_cure_16 (by decide) ?_
  exact gx_iret hx hb hr hlk hK hP hD hS (Nat.le_of_ble_eq_true rfl) (Nat.le_of_ble_eq_true rfl) dX8_cure_17 ⟨rfl, rfl⟩
def wsP_c_X0_toldPlace : List Cond := .code yX0_toldPlace cX0_toldPlace 2 (some .int) :: ([.fieldLink RX0 42 "LitmusHall$Cure" "toldSize" "I"] ++ wsX00)
set_option maxHeartbeats 4000000 in
set_option maxRecDepth 100000 in
theorem c_X0_toldPlace (l : Launch) (D : va_G) (cI cB cZ : ClassId) (h0 : Nat) (u0 : Value) (u1 : Value) (u2 : Value) (u3 : Value) (u5 : Value) (i : Int32)  : gMi l yX0_toldPlace wsP_c_X0_toldPlace ({ frames := 0, cells := 0, slots := 0, locals := 0 }) D cI cB cZ [] [.ref h0, .int i] [(h0, .inr (0, [u0, u1, u2, u3, .int 0, u5]))] (fun r9 w9 => r9 = (-1) ∧ w9 = [(h0, .inr (0, [u0, u1, u2, u3, .int 0, u5]))]) := by
  refine gMi.of (cc := cX0_toldPlace) (maxL := 2) (ret := (some .int)) (by decide) rfl (Nat.le_of_ble_eq_true rfl) (fun p e s m below meth c A ls hx hb hr hlk hml hts hown hin hA hP hK hD hS hN hl => ?_)
  have hown : s.vm.findClass RX0 = some m.cls := hown
  have hl : lv_has ls 2 [(0, .ref h0), (1, .int i)] := hl
  refine lv_iload_n hx hb dX0_toldPlace_0 rfl (lv_at hl 1 rfl) ?_
  refine lv_if_lt (tgt := 26) hx hb dX0_toldPlace_1 (by decide) (fun c_1 => ?_) (fun c_1 => ?_)
  · refine lv_iconst (v := (-1)) hx hb dX0_toldPlace_26 (by decide) ?_
    exact gx_iret hx hb hr hlk hK hP hD hS (Nat.le_of_ble_eq_true rfl) (Nat.le_of_ble_eq_true rfl) dX0_toldPlace_27 ⟨rfl, rfl⟩
  · refine lv_iload_n hx hb dX0_toldPlace_4 rfl (lv_at hl 1 rfl) ?_
    refine lv_aload_n hx hb dX0_toldPlace_5 rfl (lv_at hl 0 rfl) ?_
    refine va_get (D := D) (ci := 0) (v := .int 0) (C := RX0) (T := TX0) (N := 6) hx hb hts (fun _ h => List.mem_cons_of_mem _ (List.mem_append_right _ h)) hown hK hP 0 rfl rfl 4 (by decide) (hts (.fieldLink RX0 42 "LitmusHall$Cure" "toldSize" "I") (by decide +kernel)) (fun _ h9 => h9) rfl dX0_toldPlace_6 ?_
    refine lv_icmp_ge (tgt := 26) hx hb dX0_toldPlace_9 (by decide) (fun c_2 => ?_) (fun c_2 => absurd (Int32.not_lt.mp c_1) c_2)
    refine lv_iconst (v := (-1)) hx hb dX0_toldPlace_26 (by decide) ?_
    exact gx_iret hx hb hr hlk hK hP hD hS (Nat.le_of_ble_eq_true rfl) (Nat.le_of_ble_eq_true rfl) dX0_toldPlace_27 ⟨rfl, rfl⟩
def wsP_c_X8_cured : List Cond := .code yX8_cured cX8_cured 2 (some .int) :: ([.fieldLink RX8 58 "LitmusHall" "theCure" "LLitmusHall$Cure;", .methodLink RX8 193 yX0_toldPlace, .instanceMethod yX0_toldPlace, .selects RX0 yX0_toldPlace yX0_toldPlace, .initialized RX0, .fieldLink RX0 42 "LitmusHall$Cure" "toldSize" "I", .code yX0_toldPlace cX0_toldPlace 2 (some .int)] ++ wsX80 ++ wsX00)
set_option maxRecDepth 20000 in
theorem gP_c_X8_cured__c_X0_toldPlace : GoodIn wsP_c_X8_cured (wsV RX8 193 RX0 yX0_toldPlace wsP_c_X0_toldPlace) := goodIn_r _ [2, 3, 4, 5, 7, 6, 20, 21, 22, 23, 24, 25] (by decide +kernel) (by decide +kernel)
set_option maxHeartbeats 4000000 in
set_option maxRecDepth 100000 in
theorem c_X8_cured (l : Launch) (D : va_G) (cI cB cZ : ClassId) (h0 : Nat) (a11 : Nat) (v0 : Value) (v1 : Value) (v2 : Value) (v3 : Value) (v4 : Value) (v5 : Value) (v6 : Value) (v7 : Value) (v8 : Value) (v9 : Value) (v10 : Value) (u0 : Value) (u1 : Value) (u2 : Value) (u3 : Value) (u5 : Value) (i : Int32)  : gMi l yX8_cured wsP_c_X8_cured ({ frames := 1, cells := 0, slots := 0, locals := 21 }) D cI cB cZ [] [.ref h0, .int i] [(h0, .inr (8, [v0, v1, v2, v3, v4, v5, v6, v7, v8, v9, v10, .ref a11])), (a11, .inr (0, [u0, u1, u2, u3, .int 0, u5]))] (fun r9 w9 => r9 = (-1) ∧ w9 = [(h0, .inr (8, [v0, v1, v2, v3, v4, v5, v6, v7, v8, v9, v10, .ref a11])), (a11, .inr (0, [u0, u1, u2, u3, .int 0, u5]))]) := by
  refine gMi.of (cc := cX8_cured) (maxL := 2) (ret := (some .int)) (by decide) rfl (Nat.le_of_ble_eq_true rfl) (fun p e s m below meth c A ls hx hb hr hlk hml hts hown hin hA hP hK hD hS hN hl => ?_)
  have hown : s.vm.findClass RX8 = some m.cls := hown
  have hl : lv_has ls 2 [(0, .ref h0), (1, .int i)] := hl
  refine lv_aload_n hx hb dX8_cured_0 rfl (lv_at hl 0 rfl) ?_
  refine va_get (D := D) (ci := 8) (v := .ref a11) (C := RX8) (T := TX8) (N := 12) hx hb hts (fun _ h => List.mem_cons_of_mem _ (List.mem_append_left _ (List.mem_append_right _ h))) hown hK hP 0 rfl rfl 11 (by decide) (hts (.fieldLink RX8 58 "LitmusHall" "theCure" "LLitmusHall$Cure;") (by decide +kernel)) (fun _ h9 => h9) rfl dX8_cured_1 ?_
  refine lv_iload_n hx hb dX8_cured_4 rfl (lv_at hl 1 rfl) ?_
  refine gx_goi (wc := [(a11, .inr (0, [u0, u1, u2, u3, .int 0, u5]))]) (wr := [(h0, .inr (8, [v0, v1, v2, v3, v4, v5, v6, v7, v8, v9, v10, .ref a11]))]) (va_runV (As := [.int i]) (rest := []) ⟨hx, hb, hml, hown, hts⟩ (c_X0_toldPlace l D cI cB cZ a11 (u0) (u1) (u2) (u3) (u5) i _) (cwV 1 hts gP_c_X8_cured__c_X0_toldPlace rfl rfl rfl (by decide +kernel) ⟨Nat.le_of_ble_eq_true rfl, Nat.le_of_ble_eq_true rfl⟩) (gx_preV (ci := 0) (q0 := 0) hK gN.nil hP hD [1] rfl rfl rfl rfl) rfl rfl hl.1 rfl (lv_room (Nat.le_of_ble_eq_true rfl)) dX8_cured_5 ⟨Nat.le_of_ble_eq_true rfl, Nat.le_of_ble_eq_true rfl⟩) hP hD hS hA [1] [0] rfl rfl rfl (by decide) (fun r1 w1 H locs hp hP hD hS => ?_)
  obtain ⟨rfl, rfl⟩ := hp
  have hP : va_P D vwCl [(h0, .inr (8, [v0, v1, v2, v3, v4, v5, v6, v7, v8, v9, v10, .ref a11])), (a11, .inr (0, [u0, u1, u2, u3, .int 0, u5]))] H := hP
  have hD : va_D A [(h0, .inr (8, [v0, v1, v2, v3, v4, v5, v6, v7, v8, v9, v10, .ref a11])), (a11, .inr (0, [u0, u1, u2, u3, .int 0, u5]))] := hD
  refine W.widen (k := 0) (n := 0) (Nat.le_of_ble_eq_true rfl) (Nat.le_of_ble_eq_true rfl) ?_
  exact gx_iret hx hb hr hlk hK hP hD hS (Nat.le_of_ble_eq_true rfl) (Nat.le_of_ble_eq_true rfl) dX8_cured_8 ⟨rfl, rfl⟩
def wsP_c_X8_count : List Cond := .code yX8_count cX8_count 2 (some .int) :: ([.fieldLink RX8 79 "LitmusHall" "loaded" "Z", .fieldLink RX8 62 "LitmusHall" "tapeSize" "I"] ++ wsX80)
set_option maxHeartbeats 4000000 in
set_option maxRecDepth 100000 in
theorem c_X8_count (l : Launch) (D : va_G) (cI cB cZ : ClassId) (h0 : Nat) (t : Int32) (v0 : Value) (v2 : Value) (v3 : Value) (v5 : Value) (v6 : Value) (v7 : Value) (v8 : Value) (v9 : Value) (v10 : Value) (v11 : Value) (what : Int32)  : gMi l yX8_count wsP_c_X8_count ({ frames := 0, cells := 0, slots := 0, locals := 0 }) D cI cB cZ [] [.ref h0, .int what] [(h0, .inr (8, [v0, .int t, v2, v3, .int 0, v5, v6, v7, v8, v9, v10, v11]))] (fun r9 w9 => r9 = (if what < 0 then (-1) else if what ≤ 9 then (if what = 9 then t else 0) else (-1)) ∧ w9 = [(h0, .inr (8, [v0, .int t, v2, v3, .int 0, v5, v6, v7, v8, v9, v10, v11]))]) := by
  refine gMi.of (cc := cX8_count) (maxL := 2) (ret := (some .int)) (by decide) rfl (Nat.le_of_ble_eq_true rfl) (fun p e s m below meth c A ls hx hb hr hlk hml hts hown hin hA hP hK hD hS hN hl => ?_)
  have hown : s.vm.findClass RX8 = some m.cls := hown
  have hl : lv_has ls 2 [(0, .ref h0), (1, .int what)] := hl
  refine lv_iload_n hx hb dX8_count_0 rfl (lv_at hl 1 rfl) ?_
  refine lv_if_lt (tgt := 10) hx hb dX8_count_1 (by decide) (fun c_1 => ?_) (fun c_1 => ?_)
  · refine lv_iconst (v := (-1)) hx hb dX8_count_10 (by decide) ?_
    exact gx_iret hx hb hr hlk hK hP hD hS (Nat.le_of_ble_eq_true rfl) (Nat.le_of_ble_eq_true rfl) dX8_count_11 ⟨by first | (simp only [*, ite_true, ite_false]; done) | (subst_vars; rfl) | (subst_vars; simp; done) | (simp_all; done), rfl⟩
  · refine lv_iload_n hx hb dX8_count_4 rfl (lv_at hl 1 rfl) ?_
    refine lv_bipush (v := 9) hx hb dX8_count_5 (by decide) ?_
    refine lv_icmp_le (tgt := 12) hx hb dX8_count_7 (by decide) (fun c_2 => ?_) (fun c_2 => ?_)
    · refine lv_iload_n hx hb dX8_count_12 rfl (lv_at hl 1 rfl) ?_
      refine lv_bipush (v := 9) hx hb dX8_count_13 (by decide) ?_
      refine lv_icmp_ne (tgt := 23) hx hb dX8_count_15 (by decide) (fun c_3 => ?_) (fun c_3 => ?_)
      · refine lv_aload_n hx hb dX8_count_23 rfl (lv_at hl 0 rfl) ?_
        refine va_get (D := D) (ci := 8) (v := .int 0) (C := RX8) (T := TX8) (N := 12) hx hb hts (fun _ h => List.mem_cons_of_mem _ (List.mem_append_right _ h)) hown hK hP 0 rfl rfl 4 (by decide) (hts (.fieldLink RX8 79 "LitmusHall" "loaded" "Z") (by decide +kernel)) (fun _ h9 => h9) rfl dX8_count_24 ?_
        refine lv_if_eq (tgt := 38) hx hb dX8_count_27 (by decide) (fun _ => ?_) (fun c9 => absurd (by decide) c9)
        refine lv_iconst (v := 0) hx hb dX8_count_38 (by decide) ?_
        exact gx_iret hx hb hr hlk hK hP hD hS (Nat.le_of_ble_eq_true rfl) (Nat.le_of_ble_eq_true rfl) dX8_count_39 ⟨by first | (simp only [*, ite_true, ite_false]; done) | (subst_vars; rfl) | (subst_vars; simp; done) | (simp_all; done), rfl⟩
      · refine lv_aload_n hx hb dX8_count_18 rfl (lv_at hl 0 rfl) ?_
        refine va_get (D := D) (ci := 8) (v := .int t) (C := RX8) (T := TX8) (N := 12) hx hb hts (fun _ h => List.mem_cons_of_mem _ (List.mem_append_right _ h)) hown hK hP 0 rfl rfl 1 (by decide) (hts (.fieldLink RX8 62 "LitmusHall" "tapeSize" "I") (by decide +kernel)) (fun _ h9 => h9) rfl dX8_count_19 ?_
        exact gx_iret hx hb hr hlk hK hP hD hS (Nat.le_of_ble_eq_true rfl) (Nat.le_of_ble_eq_true rfl) dX8_count_22 ⟨by first | (simp only [*, ite_true, ite_false]; done) | (subst_vars; rfl) | (subst_vars; simp; done) | (simp_all; done), rfl⟩
    · refine lv_iconst (v := (-1)) hx hb dX8_count_10 (by decide) ?_
      exact gx_iret hx hb hr hlk hK hP hD hS (Nat.le_of_ble_eq_true rfl) (Nat.le_of_ble_eq_true rfl) dX8_count_11 ⟨by first | (simp only [*, ite_true, ite_false]; done) | (subst_vars; rfl) | (subst_vars; simp; done) | (simp_all; done), rfl⟩
