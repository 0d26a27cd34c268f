
theorem gBt_i {a b : Int8} (h : a.toBitVec = b.toBitVec) : a.toInt32 = b.toInt32 := congrArg Int8.toInt32 (Int8.toBitVec_inj.mp h)
theorem gBt_b {x : BitVec 32} {n : Nat} (hn : n ≤ 24) : (x.sshiftRight n).signExtend 8 = (x >>> n).signExtend 8 := by
  apply BitVec.eq_of_getLsbD_eq
  intro i hi
  have h8 : i < 32 := by omega
  have h9 : n + i < 32 := by omega
  rw [BitVec.getLsbD_signExtend, BitVec.getLsbD_signExtend, if_pos h8, if_pos h8, BitVec.getLsbD_sshiftRight, BitVec.getLsbD_ushiftRight, if_pos h9, decide_eq_false (Nat.not_le.mpr h8)]
  rfl
theorem gBt_c (w c : Int32) (n : Nat) (hn : n ≤ 24) (h1 : ((c &&& 31).toBitVec.smod 32).toNat = n) (h2 : (UInt32.mod (c.toUInt32 &&& Int32.toUInt32 31) 32).toBitVec.toNat = n) : ((w).toUInt32 >>> (c.toUInt32 &&& Int32.toUInt32 31)).toInt32.toInt8.toInt32 = (w >>> (c &&& 31)).toInt8.toInt32 := by
  apply gBt_i
  show (w.toBitVec >>> (UInt32.mod (c.toUInt32 &&& Int32.toUInt32 31) 32).toBitVec.toNat).signExtend 8 = (w.toBitVec.sshiftRight ((c &&& 31).toBitVec.smod 32).toNat).signExtend 8
  rw [h1, h2]
  exact (gBt_b hn).symm
theorem gBt24 (w : Int32) : ((w).toUInt32 >>> ((24 : Int32).toUInt32 &&& Int32.toUInt32 31)).toInt32.toInt8.toInt32 = (w >>> ((24 : Int32) &&& 31)).toInt8.toInt32 := gBt_c w 24 24 (by decide) (by decide) (by decide)
theorem gBt16 (w : Int32) : ((w).toUInt32 >>> ((16 : Int32).toUInt32 &&& Int32.toUInt32 31)).toInt32.toInt8.toInt32 = (w >>> ((16 : Int32) &&& 31)).toInt8.toInt32 := gBt_c w 16 16 (by decide) (by decide) (by decide)
theorem gBt8 (w : Int32) : ((w).toUInt32 >>> ((8 : Int32).toUInt32 &&& Int32.toUInt32 31)).toInt32.toInt8.toInt32 = (w >>> ((8 : Int32) &&& 31)).toInt8.toInt32 := gBt_c w 8 8 (by decide) (by decide) (by decide)
theorem gBt0 (w : Int32) : ((w).toUInt32 >>> ((0 : Int32).toUInt32 &&& Int32.toUInt32 31)).toInt32.toInt8.toInt32 = (w >>> ((0 : Int32) &&& 31)).toInt8.toInt32 := gBt_c w 0 0 (by decide) (by decide) (by decide)
/-- four bytes of an int at n -/
def rFd (f : Nat → Int32) (n : Nat) (w : Int32) : Nat → Int32 := upd (upd (upd (upd f n (vp_nar .byte ((w >>> ((24 : Int32) &&& 31)).toInt8.toInt32))) (n + 1) (vp_nar .byte ((w >>> ((16 : Int32) &&& 31)).toInt8.toInt32))) ((n + 1) + 1) (vp_nar .byte ((w >>> ((8 : Int32) &&& 31)).toInt8.toInt32))) (((n + 1) + 1) + 1) (vp_nar .byte ((w >>> ((0 : Int32) &&& 31)).toInt8.toInt32))
theorem rFd_9 (f : Nat → Int32) (n : Nat) (w : Int32) : upd (upd (upd (upd f n (vp_nar .byte (((w).toUInt32 >>> ((24 : Int32).toUInt32 &&& Int32.toUInt32 31)).toInt32.toInt8.toInt32))) (n + 1) (vp_nar .byte (((w).toUInt32 >>> ((16 : Int32).toUInt32 &&& Int32.toUInt32 31)).toInt32.toInt8.toInt32))) ((n + 1) + 1) (vp_nar .byte (((w).toUInt32 >>> ((8 : Int32).toUInt32 &&& Int32.toUInt32 31)).toInt32.toInt8.toInt32))) (((n + 1) + 1) + 1) (vp_nar .byte (((w).toUInt32 >>> ((0 : Int32).toUInt32 &&& Int32.toUInt32 31)).toInt32.toInt8.toInt32)) = rFd f n w := by
  unfold rFd
  rw [gBt24, gBt16, gBt8, gBt0]
def rF5 (f : Nat → Int32) (n : Nat) (w1 w2 w3 w4 w5 : Int32) : Nat → Int32 := rFd (rFd (rFd (rFd (rFd f n w1) (n + 4) w2) (n + 8) w3) (n + 12) w4) (n + 16) w5
theorem rF5_c {f g1 g2 g3 g4 g5 : Nat → Int32} {n n2 n3 n4 n5 : Nat} {w1 w2 w3 w4 w5 : Int32} (h1 : g1 = rFd f n w1) (h2 : g2 = rFd g1 n2 w2) (h3 : g3 = rFd g2 n3 w3) (h4 : g4 = rFd g3 n4 w4) (h5 : g5 = rFd g4 n5 w5) (e2 : n2 = n + 4) (e3 : n3 = n + 8) (e4 : n4 = n + 12) (e5 : n5 = n + 16) : g5 = rF5 f n w1 w2 w3 w4 w5 := by
  subst e2; subst e3; subst e4; subst e5
  rw [h5, h4, h3, h2, h1]
  rfl
def wsP_x_X8_feedWord : List Cond := .code yX8_feedWord cX8_feedWord 3 none :: (([.fieldLink RX8 62 "LitmusHall" "tapeSize" "I", .fieldLink RX8 9 "LitmusHall" "tape" "[B"] ++ wsX80) ++ [])
theorem gW_x_X8_feedWord : wsP_x_X8_feedWord.all goodWord = true := by unfold wsP_x_X8_feedWord; exact gw_mk (by decide +kernel) rfl
set_option maxHeartbeats 4000000 in
set_option maxRecDepth 100000 in
theorem x_X8_feedWord (l : Launch) (D : va_G) (cI cB cZ : ClassId) (h0 : Nat) (a0 : Nat) (v2 : Value) (v3 : Value) (v4 : Value) (v5 : Value) (v6 : Value) (v7 : Value) (v8 : Value) (v9 : Value) (v10 : Value) (v11 : Value) (f : Nat → Int32) (n : Nat) (w : Int32) (hn : n ≤ 3996) : gMv l yX8_feedWord wsP_x_X8_feedWord ({ frames := 0, cells := 0, slots := 0, locals := 0 }) D cI cB cZ [] [.ref h0, .int w] [(h0, .inr (8, [.ref a0, .int (nI n), v2, v3, v4, v5, v6, v7, v8, v9, v10, v11])), (a0, .inl (cB, 4000, .inl f))] (fun w9 => ∃ g : Nat → Int32, (g = rFd f n w) ∧ w9 = [(h0, .inr (8, [.ref a0, .int (nI (n + 4)), v2, v3, v4, v5, v6, v7, v8, v9, v10, v11])), (a0, .inl (cB, 4000, .inl g))]) := by
  refine gMv.of (cc := cX8_feedWord) (maxL := 3) (ret := none) (by decide) rfl (Nat.le_of_ble_eq_true rfl) (fun p e s m below meth c A ls hx hb hr hlk hml hts hown hin hA hP hK hD hS hN hl => ?_)
  have hown : s.vm.findClass RX8 = some m.cls := hown
  have hl : lv_has ls 3 [(0, .ref h0), (1, .int w)] := hl
  refine lv_bipush (v := 24) hx hb dX8_feedWord_0 (by decide) ?_
  refine lv_istore_n (lv' := [(2, .int 24), (0, .ref h0), (1, .int w)]) hx hb dX8_feedWord_2 rfl hl (by decide) rfl (fun ls hl => ?_)
  refine lv_iload_n hx hb dX8_feedWord_3 rfl (lv_at hl 0 rfl) ?_
  refine lv_if_lt (tgt := 46) hx hb dX8_feedWord_4 (by decide) (fun c9 => absurd c9 (by decide)) (fun _ => ?_)
  refine lv_aload_n hx hb dX8_feedWord_7 rfl (lv_at hl 1 rfl) ?_
  refine va_get (D := D) (ci := 8) (v := .int (nI n)) (C := RX8) (T := TX8) (N := 12) hx hb hts (fun _ h => List.mem_cons_of_mem _ (List.mem_append_left _ (List.mem_append_right _ h))) hown hK hP 0 rfl rfl 1 (by decide) (hts (.fieldLink RX8 62 "LitmusHall" "tapeSize" "I") (by decide +kernel)) (fun _ h9 => h9) rfl dX8_feedWord_8 ?_
  refine lv_sipush (v := 4000) hx hb dX8_feedWord_11 (by decide) ?_
  refine gy_ge (a := n) (b := 4000) (tgt := 46) hx hb (by omega) (by omega) dX8_feedWord_14 (by decide) (fun c_1 => ?_) (fun c_1 => ?_)
  · exfalso; omega
  · refine lv_aload_n hx hb dX8_feedWord_17 rfl (lv_at hl 1 rfl) ?_
    refine va_get (D := D) (ci := 8) (v := .ref a0) (C := RX8) (T := TX8) (N := 12) hx hb hts (fun _ h => List.mem_cons_of_mem _ (List.mem_append_left _ (List.mem_append_right _ h))) hown hK hP 0 rfl rfl 0 (by decide) (hts (.fieldLink RX8 9 "LitmusHall" "tape" "[B") (by decide +kernel)) (fun _ h9 => h9) rfl dX8_feedWord_18 ?_
    refine lv_aload_n hx hb dX8_feedWord_21 rfl (lv_at hl 1 rfl) ?_
    refine va_get (D := D) (ci := 8) (v := .int (nI n)) (C := RX8) (T := TX8) (N := 12) hx hb hts (fun _ h => List.mem_cons_of_mem _ (List.mem_append_left _ (List.mem_append_right _ h))) hown hK hP 0 rfl rfl 1 (by decide) (hts (.fieldLink RX8 62 "LitmusHall" "tapeSize" "I") (by decide +kernel)) (fun _ h9 => h9) rfl dX8_feedWord_22 ?_
    refine lv_iload_n hx hb dX8_feedWord_25 rfl (lv_at hl 2 rfl) ?_
    refine lv_iload_n hx hb dX8_feedWord_26 rfl (lv_at hl 0 rfl) ?_
    refine lv_ishr hx hb dX8_feedWord_27 ?_
    refine lv_i2b (v := (w >>> ((24 : Int32) &&& 31)).toInt8.toInt32) hx hb dX8_feedWord_28 rfl ?_
    refine gy_bst (i := n) hx hb hK hP hD hS 1 rfl (by omega) (by omega) dX8_feedWord_29 (fun H locs hP hD hS => ?_)
    have hP : va_P D vwCl [(h0, .inr (8, [.ref a0, .int (nI n), v2, v3, v4, v5, v6, v7, v8, v9, v10, v11])), (a0, .inl (cB, 4000, .inl (upd f n (vp_nar .byte ((w >>> ((24 : Int32) &&& 31)).toInt8.toInt32)))))] H := hP
    have hD : va_D A [(h0, .inr (8, [.ref a0, .int (nI n), v2, v3, v4, v5, v6, v7, v8, v9, v10, v11])), (a0, .inl (cB, 4000, .inl (upd f n (vp_nar .byte ((w >>> ((24 : Int32) &&& 31)).toInt8.toInt32)))))] := hD
    refine lv_aload_n hx hb dX8_feedWord_30 rfl (lv_at hl 1 rfl) ?_
    refine lv_dup hx hb dX8_feedWord_31 rfl ?_
    refine va_get (D := D) (ci := 8) (v := .int (nI n)) (C := RX8) (T := TX8) (N := 12) hx hb hts (fun _ h => List.mem_cons_of_mem _ (List.mem_append_left _ (List.mem_append_right _ h))) hown hK hP 0 rfl rfl 1 (by decide) (hts (.fieldLink RX8 62 "LitmusHall" "tapeSize" "I") (by decide +kernel)) (fun _ h9 => h9) rfl dX8_feedWord_32 ?_
    refine lv_iconst (v := 1) hx hb dX8_feedWord_35 (by decide) ?_
    refine lv_iadd hx hb dX8_feedWord_36 ?_
    refine gx_top (y := nI (n + 1)) (nI_add n 1) ?_
    refine va_put (D := D) (ci := 8) (v := .int (nI (n + 1))) (ty := .int) (C := RX8) (T := TX8) (N := 12) hx hb hts (fun _ h => List.mem_cons_of_mem _ (List.mem_append_left _ (List.mem_append_right _ h))) tyX8 tyX8_ok nmX8 hown hK hP hD hS 0 rfl rfl 1 (by decide) (hts (.fieldLink RX8 62 "LitmusHall" "tapeSize" "I") (by decide +kernel)) (fun _ h9 => h9) rfl (by decide +kernel) rfl rfl (Nat.le_of_ble_eq_true rfl) dX8_feedWord_37 (fun H locs hP hD hS => ?_)
    have hP : va_P D vwCl [(h0, .inr (8, [.ref a0, .int (nI (n + 1)), v2, v3, v4, v5, v6, v7, v8, v9, v10, v11])), (a0, .inl (cB, 4000, .inl (upd f n (vp_nar .byte ((w >>> ((24 : Int32) &&& 31)).toInt8.toInt32)))))] H := hP
    have hD : va_D A [(h0, .inr (8, [.ref a0, .int (nI (n + 1)), v2, v3, v4, v5, v6, v7, v8, v9, v10, v11])), (a0, .inl (cB, 4000, .inl (upd f n (vp_nar .byte ((w >>> ((24 : Int32) &&& 31)).toInt8.toInt32)))))] := hD
    refine lv_iinc (v := 16) (lv' := [(2, .int 16), (0, .ref h0), (1, .int w)]) hx hb dX8_feedWord_40 hl (k := 0) rfl (by decide +kernel) (by decide) rfl (fun ls hl => ?_)
    refine lv_goto (tgt := 3) hx hb dX8_feedWord_43 (by decide) ?_
    refine lv_iload_n hx hb dX8_feedWord_3 rfl (lv_at hl 0 rfl) ?_
    refine lv_if_lt (tgt := 46) hx hb dX8_feedWord_4 (by decide) (fun c9 => absurd c9 (by decide)) (fun _ => ?_)
    refine lv_aload_n hx hb dX8_feedWord_7 rfl (lv_at hl 1 rfl) ?_
    refine va_get (D := D) (ci := 8) (v := .int (nI (n + 1))) (C := RX8) (T := TX8) (N := 12) hx hb hts (fun _ h => List.mem_cons_of_mem _ (List.mem_append_left _ (List.mem_append_right _ h))) hown hK hP 0 rfl rfl 1 (by decide) (hts (.fieldLink RX8 62 "LitmusHall" "tapeSize" "I") (by decide +kernel)) (fun _ h9 => h9) rfl dX8_feedWord_8 ?_
    refine lv_sipush (v := 4000) hx hb dX8_feedWord_11 (by decide) ?_
    refine gy_ge (a := (n + 1)) (b := 4000) (tgt := 46) hx hb (by omega) (by omega) dX8_feedWord_14 (by decide) (fun c_2 => ?_) (fun c_2 => ?_)
    · exfalso; omega
    · refine lv_aload_n hx hb dX8_feedWord_17 rfl (lv_at hl 1 rfl) ?_
      refine va_get (D := D) (ci := 8) (v := .ref a0) (C := RX8) (T := TX8) (N := 12) hx hb hts (fun _ h => List.mem_cons_of_mem _ (List.mem_append_left _ (List.mem_append_right _ h))) hown hK hP 0 rfl rfl 0 (by decide) (hts (.fieldLink RX8 9 "LitmusHall" "tape" "[B") (by decide +kernel)) (fun _ h9 => h9) rfl dX8_feedWord_18 ?_
      refine lv_aload_n hx hb dX8_feedWord_21 rfl (lv_at hl 1 rfl) ?_
      refine va_get (D := D) (ci := 8) (v := .int (nI (n + 1))) (C := RX8) (T := TX8) (N := 12) hx hb hts (fun _ h => List.mem_cons_of_mem _ (List.mem_append_left _ (List.mem_append_right _ h))) hown hK hP 0 rfl rfl 1 (by decide) (hts (.fieldLink RX8 62 "LitmusHall" "tapeSize" "I") (by decide +kernel)) (fun _ h9 => h9) rfl dX8_feedWord_22 ?_
      refine lv_iload_n hx hb dX8_feedWord_25 rfl (lv_at hl 2 rfl) ?_
      refine lv_iload_n hx hb dX8_feedWord_26 rfl (lv_at hl 0 rfl) ?_
      refine lv_ishr hx hb dX8_feedWord_27 ?_
      refine lv_i2b (v := (w >>> ((16 : Int32) &&& 31)).toInt8.toInt32) hx hb dX8_feedWord_28 rfl ?_
      refine gy_bst (i := (n + 1)) hx hb hK hP hD hS 1 rfl (by omega) (by omega) dX8_feedWord_29 (fun H locs hP hD hS => ?_)
      have hP : va_P D vwCl [(h0, .inr (8, [.ref a0, .int (nI (n + 1)), v2, v3, v4, v5, v6, v7, v8, v9, v10, v11])), (a0, .inl (cB, 4000, .inl (upd (upd f n (vp_nar .byte ((w >>> ((24 : Int32) &&& 31)).toInt8.toInt32))) (n + 1) (vp_nar .byte ((w >>> ((16 : Int32) &&& 31)).toInt8.toInt32)))))] H := hP
      have hD : va_D A [(h0, .inr (8, [.ref a0, .int (nI (n + 1)), v2, v3, v4, v5, v6, v7, v8, v9, v10, v11])), (a0, .inl (cB, 4000, .inl (upd (upd f n (vp_nar .byte ((w >>> ((24 : Int32) &&& 31)).toInt8.toInt32))) (n + 1) (vp_nar .byte ((w >>> ((16 : Int32) &&& 31)).toInt8.toInt32)))))] := hD
      refine lv_aload_n hx hb dX8_feedWord_30 rfl (lv_at hl 1 rfl) ?_
      refine lv_dup hx hb dX8_feedWord_31 rfl ?_
      refine va_get (D := D) (ci := 8) (v := .int (nI (n + 1))) (C := RX8) (T := TX8) (N := 12) hx hb hts (fun _ h => List.mem_cons_of_mem _ (List.mem_append_left _ (List.mem_append_right _ h))) hown hK hP 0 rfl rfl 1 (by decide) (hts (.fieldLink RX8 62 "LitmusHall" "tapeSize" "I") (by decide +kernel)) (fun _ h9 => h9) rfl dX8_feedWord_32 ?_
      refine lv_iconst (v := 1) hx hb dX8_feedWord_35 (by decide) ?_
      refine lv_iadd hx hb dX8_feedWord_36 ?_
      refine gx_top (y := nI ((n + 1) + 1)) (nI_add (n + 1) 1) ?_
      refine va_put (D := D) (ci := 8) (v := .int (nI ((n + 1) + 1))) (ty := .int) (C := RX8) (T := TX8) (N := 12) hx hb hts (fun _ h => List.mem_cons_of_mem _ (List.mem_append_left _ (List.mem_append_right _ h))) tyX8 tyX8_ok nmX8 hown hK hP hD hS 0 rfl rfl 1 (by decide) (hts (.fieldLink RX8 62 "LitmusHall" "tapeSize" "I") (by decide +kernel)) (fun _ h9 => h9) rfl (by decide +kernel) rfl rfl (Nat.le_of_ble_eq_true rfl) dX8_feedWord_37 (fun H locs hP hD hS => ?_)
      have hP : va_P D vwCl [(h0, .inr (8, [.ref a0, .int (nI ((n + 1) + 1)), v2, v3, v4, v5, v6, v7, v8, v9, v10, v11])), (a0, .inl (cB, 4000, .inl (upd (upd f n (vp_nar .byte ((w >>> ((24 : Int32) &&& 31)).toInt8.toInt32))) (n + 1) (vp_nar .byte ((w >>> ((16 : Int32) &&& 31)).toInt8.toInt32)))))] H := hP
      have hD : va_D A [(h0, .inr (8, [.ref a0, .int (nI ((n + 1) + 1)), v2, v3, v4, v5, v6, v7, v8, v9, v10, v11])), (a0, .inl (cB, 4000, .inl (upd (upd f n (vp_nar .byte ((w >>> ((24 : Int32) &&& 31)).toInt8.toInt32))) (n + 1) (vp_nar .byte ((w >>> ((16 : Int32) &&& 31)).toInt8.toInt32)))))] := hD
      refine lv_iinc (v := 8) (lv' := [(2, .int 8), (0, .ref h0), (1, .int w)]) hx hb dX8_feedWord_40 hl (k := 0) rfl (by decide +kernel) (by decide) rfl (fun ls hl => ?_)
      refine lv_goto (tgt := 3) hx hb dX8_feedWord_43 (by decide) ?_
      refine lv_iload_n hx hb dX8_feedWord_3 rfl (lv_at hl 0 rfl) ?_
      refine lv_if_lt (tgt := 46) hx hb dX8_feedWord_4 (by decide) (fun c9 => absurd c9 (by decide)) (fun _ => ?_)
      refine lv_aload_n hx hb dX8_feedWord_7 rfl (lv_at hl 1 rfl) ?_
      refine va_get (D := D) (ci := 8) (v := .int (nI ((n + 1) + 1))) (C := RX8) (T := TX8) (N := 12) hx hb hts (fun _ h => List.mem_cons_of_mem _ (List.mem_append_left _ (List.mem_append_right _ h))) hown hK hP 0 rfl rfl 1 (by decide) (hts (.fieldLink RX8 62 "LitmusHall" "tapeSize" "I") (by decide +kernel)) (fun _ h9 => h9) rfl dX8_feedWord_8 ?_
      refine lv_sipush (v := 4000) hx hb dX8_feedWord_11 (by decide) ?_
      refine gy_ge (a := ((n + 1) + 1)) (b := 4000) (tgt := 46) hx hb (by omega) (by omega) dX8_feedWord_14 (by decide) (fun c_3 => ?_) (fun c_3 => ?_)
      · exfalso; omega
      · refine lv_aload_n hx hb dX8_feedWord_17 rfl (lv_at hl 1 rfl) ?_
        refine va_get (D := D) (ci := 8) (v := .ref a0) (C := RX8) (T := TX8) (N := 12) hx hb hts (fun _ h => List.mem_cons_of_mem _ (List.mem_append_left _ (List.mem_append_right _ h))) hown hK hP 0 rfl rfl 0 (by decide) (hts (.fieldLink RX8 9 "LitmusHall" "tape" "[B") (by decide +kernel)) (fun _ h9 => h9) rfl dX8_feedWord_18 ?_
        refine lv_aload_n hx hb dX8_feedWord_21 rfl (lv_at hl 1 rfl) ?_
        refine va_get (D := D) (ci := 8) (v := .int (nI ((n + 1) + 1))) (C := RX8) (T := TX8) (N := 12) hx hb hts (fun _ h => List.mem_cons_of_mem _ (List.mem_append_left _ (List.mem_append_right _ h))) hown hK hP 0 rfl rfl 1 (by decide) (hts (.fieldLink RX8 62 "LitmusHall" "tapeSize" "I") (by decide +kernel)) (fun _ h9 => h9) rfl dX8_feedWord_22 ?_
        refine lv_iload_n hx hb dX8_feedWord_25 rfl (lv_at hl 2 rfl) ?_
        refine lv_iload_n hx hb dX8_feedWord_26 rfl (lv_at hl 0 rfl) ?_
        refine lv_ishr hx hb dX8_feedWord_27 ?_
        refine lv_i2b (v := (w >>> ((8 : Int32) &&& 31)).toInt8.toInt32) hx hb dX8_feedWord_28 rfl ?_
        refine gy_bst (i := ((n + 1) + 1)) hx hb hK hP hD hS 1 rfl (by omega) (by omega) dX8_feedWord_29 (fun H locs hP hD hS => ?_)
        have hP : va_P D vwCl [(h0, .inr (8, [.ref a0, .int (nI ((n + 1) + 1)), v2, v3, v4, v5, v6, v7, v8, v9, v10, v11])), (a0, .inl (cB, 4000, .inl (upd (upd (upd f n (vp_nar .byte ((w >>> ((24 : Int32) &&& 31)).toInt8.toInt32))) (n + 1) (vp_nar .byte ((w >>> ((16 : Int32) &&& 31)).toInt8.toInt32))) ((n + 1) + 1) (vp_nar .byte ((w >>> ((8 : Int32) &&& 31)).toInt8.toInt32)))))] H := hP
        have hD : va_D A [(h0, .inr (8, [.ref a0, .int (nI ((n + 1) + 1)), v2, v3, v4, v5, v6, v7, v8, v9, v10, v11])), (a0, .inl (cB, 4000, .inl (upd (upd (upd f n (vp_nar .byte ((w >>> ((24 : Int32) &&& 31)).toInt8.toInt32))) (n + 1) (vp_nar .byte ((w >>> ((16 : Int32) &&& 31)).toInt8.toInt32))) ((n + 1) + 1) (vp_nar .byte ((w >>> ((8 : Int32) &&& 31)).toInt8.toInt32)))))] := hD
        refine lv_aload_n hx hb dX8_feedWord_30 rfl (lv_at hl 1 rfl) ?_
        refine lv_dup hx hb dX8_feedWord_31 rfl ?_
        refine va_get (D := D) (ci := 8) (v := .int (nI ((n + 1) + 1))) (C := RX8) (T := TX8) (N := 12) hx hb hts (fun _ h => List.mem_cons_of_mem _ (List.mem_append_left _ (List.mem_append_right _ h))) hown hK hP 0 rfl rfl 1 (by decide) (hts (.fieldLink RX8 62 "LitmusHall" "tapeSize" "I") (by decide +kernel)) (fun _ h9 => h9) rfl dX8_feedWord_32 ?_
        refine lv_iconst (v := 1) hx hb dX8_feedWord_35 (by decide) ?_
        refine lv_iadd hx hb dX8_feedWord_36 ?_
        refine gx_top (y := nI (((n + 1) + 1) + 1)) (nI_add ((n + 1) + 1) 1) ?_
        refine va_put (D := D) (ci := 8) (v := .int (nI (((n + 1) + 1) + 1))) (ty := .int) (C := RX8) (T := TX8) (N := 12) hx hb hts (fun _ h => List.mem_cons_of_mem _ (List.mem_append_left _ (List.mem_append_right _ h))) tyX8 tyX8_ok nmX8 hown hK hP hD hS 0 rfl rfl 1 (by decide) (hts (.fieldLink RX8 62 "LitmusHall" "tapeSize" "I") (by decide +kernel)) (fun _ h9 => h9) rfl (by decide +kernel) rfl rfl (Nat.le_of_ble_eq_true rfl) dX8_feedWord_37 (fun H locs hP hD hS => ?_)
        have hP : va_P D vwCl [(h0, .inr (8, [.ref a0, .int (nI (((n + 1) + 1) + 1)), v2, v3, v4, v5, v6, v7, v8, v9, v10, v11])), (a0, .inl (cB, 4000, .inl (upd (upd (upd f n (vp_nar .byte ((w >>> ((24 : Int32) &&& 31)).toInt8.toInt32))) (n + 1) (vp_nar .byte ((w >>> ((16 : Int32) &&& 31)).toInt8.toInt32))) ((n + 1) + 1) (vp_nar .byte ((w >>> ((8 : Int32) &&& 31)).toInt8.toInt32)))))] H := hP
        have hD : va_D A [(h0, .inr (8, [.ref a0, .int (nI (((n + 1) + 1) + 1)), v2, v3, v4, v5, v6, v7, v8, v9, v10, v11])), (a0, .inl (cB, 4000, .inl (upd (upd (upd f n (vp_nar .byte ((w >>> ((24 : Int32) &&& 31)).toInt8.toInt32))) (n + 1) (vp_nar .byte ((w >>> ((16 : Int32) &&& 31)).toInt8.toInt32))) ((n + 1) + 1) (vp_nar .byte ((w >>> ((8 : Int32) &&& 31)).toInt8.toInt32)))))] := hD
        refine lv_iinc (v := 0) (lv' := [(2, .int 0), (0, .ref h0), (1, .int w)]) hx hb dX8_feedWord_40 hl (k := 0) rfl (by decide +kernel) (by decide) rfl (fun ls hl => ?_)
        refine lv_goto (tgt := 3) hx hb dX8_feedWord_43 (by decide) ?_
        refine lv_iload_n hx hb dX8_feedWord_3 rfl (lv_at hl 0 rfl) ?_
        refine lv_if_lt (tgt := 46) hx hb dX8_feedWord_4 (by decide) (fun c9 => absurd c9 (by decide)) (fun _ => ?_)
        refine lv_aload_n hx hb dX8_feedWord_7 rfl (lv_at hl 1 rfl) ?_
        refine va_get (D := D) (ci := 8) (v := .int (nI (((n + 1) + 1) + 1))) (C := RX8) (T := TX8) (N := 12) hx hb hts (fun _ h => List.mem_cons_of_mem _ (List.mem_append_left _ (List.mem_append_right _ h))) hown hK hP 0 rfl rfl 1 (by decide) (hts (.fieldLink RX8 62 "LitmusHall" "tapeSize" "I") (by decide +kernel)) (fun _ h9 => h9) rfl dX8_feedWord_8 ?_
        refine lv_sipush (v := 4000) hx hb dX8_feedWord_11 (by decide) ?_
        refine gy_ge (a := (((n + 1) + 1) + 1)) (b := 4000) (tgt := 46) hx hb (by omega) (by omega) dX8_feedWord_14 (by decide) (fun c_4 => ?_) (fun c_4 => ?_)
        · exfalso; omega
        · refine lv_aload_n hx hb dX8_feedWord_17 rfl (lv_at hl 1 rfl) ?_
          refine va_get (D := D) (ci := 8) (v := .ref a0) (C := RX8) (T := TX8) (N := 12) hx hb hts (fun _ h => List.mem_cons_of_mem _ (List.mem_append_left _ (List.mem_append_right _ h))) hown hK hP 0 rfl rfl 0 (by decide) (hts (.fieldLink RX8 9 "LitmusHall" "tape" "[B") (by decide +kernel)) (fun _ h9 => h9) rfl dX8_feedWord_18 ?_
          refine lv_aload_n hx hb dX8_feedWord_21 rfl (lv_at hl 1 rfl) ?_
          refine va_get (D := D) (ci := 8) (v := .int (nI (((n + 1) + 1) + 1))) (C := RX8) (T := TX8) (N := 12) hx hb hts (fun _ h => List.mem_cons_of_mem _ (List.mem_append_left _ (List.mem_append_right _ h))) hown hK hP 0 rfl rfl 1 (by decide) (hts (.fieldLink RX8 62 "LitmusHall" "tapeSize" "I") (by decide +kernel)) (fun _ h9 => h9) rfl dX8_feedWord_22 ?_
          refine lv_iload_n hx hb dX8_feedWord_25 rfl (lv_at hl 2 rfl) ?_
          refine lv_iload_n hx hb dX8_feedWord_26 rfl (lv_at hl 0 rfl) ?_
          refine lv_ishr hx hb dX8_feedWord_27 ?_
          refine lv_i2b (v := (w >>> ((0 : Int32) &&& 31)).toInt8.toInt32) hx hb dX8_feedWord_28 rfl ?_
          refine gy_bst (i := (((n + 1) + 1) + 1)) hx hb hK hP hD hS 1 rfl (by omega) (by omega) dX8_feedWord_29 (fun H locs hP hD hS => ?_)
          have hP : va_P D vwCl [(h0, .inr (8, [.ref a0, .int (nI (((n + 1) + 1) + 1)), v2, v3, v4, v5, v6, v7, v8, v9, v10, v11])), (a0, .inl (cB, 4000, .inl (upd (upd (upd (upd f n (vp_nar .byte ((w >>> ((24 : Int32) &&& 31)).toInt8.toInt32))) (n + 1) (vp_nar .byte ((w >>> ((16 : Int32) &&& 31)).toInt8.toInt32))) ((n + 1) + 1) (vp_nar .byte ((w >>> ((8 : Int32) &&& 31)).toInt8.toInt32))) (((n + 1) + 1) + 1) (vp_nar .byte ((w >>> ((0 : Int32) &&& 31)).toInt8.toInt32)))))] H := hP
          have hD : va_D A [(h0, .inr (8, [.ref a0, .int (nI (((n + 1) + 1) + 1)), v2, v3, v4, v5, v6, v7, v8, v9, v10, v11])), (a0, .inl (cB, 4000, .inl (upd (upd (upd (upd f n (vp_nar .byte ((w >>> ((24 : Int32) &&& 31)).toInt8.toInt32))) (n + 1) (vp_nar .byte ((w >>> ((16 : Int32) &&& 31)).toInt8.toInt32))) ((n + 1) + 1) (vp_nar .byte ((w >>> ((8 : Int32) &&& 31)).toInt8.toInt32))) (((n + 1) + 1) + 1) (vp_nar .byte ((w >>> ((0 : Int32) &&& 31)).toInt8.toInt32)))))] := hD
          refine lv_aload_n hx hb dX8_feedWord_30 rfl (lv_at hl 1 rfl) ?_
          refine lv_dup hx hb dX8_feedWord_31 rfl ?_
          refine va_get (D := D) (ci := 8) (v := .int (nI (((n + 1) + 1) + 1))) (C := RX8) (T := TX8) (N := 12) hx hb hts (fun _ h => List.mem_cons_of_mem _ (List.mem_append_left _ (List.mem_append_right _ h))) hown hK hP 0 rfl rfl 1 (by decide) (hts (.fieldLink RX8 62 "LitmusHall" "tapeSize" "I") (by decide +kernel)) (fun _ h9 => h9) rfl dX8_feedWord_32 ?_
          refine lv_iconst (v := 1) hx hb dX8_feedWord_35 (by decide) ?_
          refine lv_iadd hx hb dX8_feedWord_36 ?_
          refine gx_top (y := nI ((((n + 1) + 1) + 1) + 1)) (nI_add (((n + 1) + 1) + 1) 1) ?_
          refine va_put (D := D) (ci := 8) (v := .int (nI ((((n + 1) + 1) + 1) + 1))) (ty := .int) (C := RX8) (T := TX8) (N := 12) hx hb hts (fun _ h => List.mem_cons_of_mem _ (List.mem_append_left _ (List.mem_append_right _ h))) tyX8 tyX8_ok nmX8 hown hK hP hD hS 0 rfl rfl 1 (by decide) (hts (.fieldLink RX8 62 "LitmusHall" "tapeSize" "I") (by decide +kernel)) (fun _ h9 => h9) rfl (by decide +kernel) rfl rfl (Nat.le_of_ble_eq_true rfl) dX8_feedWord_37 (fun H locs hP hD hS => ?_)
          have hP : va_P D vwCl [(h0, .inr (8, [.ref a0, .int (nI ((((n + 1) + 1) + 1) + 1)), v2, v3, v4, v5, v6, v7, v8, v9, v10, v11])), (a0, .inl (cB, 4000, .inl (upd (upd (upd (upd f n (vp_nar .byte ((w >>> ((24 : Int32) &&& 31)).toInt8.toInt32))) (n + 1) (vp_nar .byte ((w >>> ((16 : Int32) &&& 31)).toInt8.toInt32))) ((n + 1) + 1) (vp_nar .byte ((w >>> ((8 : Int32) &&& 31)).toInt8.toInt32))) (((n + 1) + 1) + 1) (vp_nar .byte ((w >>> ((0 : Int32) &&& 31)).toInt8.toInt32)))))] H := hP
          have hD : va_D A [(h0, .inr (8, [.ref a0, .int (nI ((((n + 1) + 1) + 1) + 1)), v2, v3, v4, v5, v6, v7, v8, v9, v10, v11])), (a0, .inl (cB, 4000, .inl (upd (upd (upd (upd f n (vp_nar .byte ((w >>> ((24 : Int32) &&& 31)).toInt8.toInt32))) (n + 1) (vp_nar .byte ((w >>> ((16 : Int32) &&& 31)).toInt8.toInt32))) ((n + 1) + 1) (vp_nar .byte ((w >>> ((8 : Int32) &&& 31)).toInt8.toInt32))) (((n + 1) + 1) + 1) (vp_nar .byte ((w >>> ((0 : Int32) &&& 31)).toInt8.toInt32)))))] := hD
          refine lv_iinc (v := (-8)) (lv' := [(2, .int (-8)), (0, .ref h0), (1, .int w)]) hx hb dX8_feedWord_40 hl (k := 0) rfl (by decide +kernel) (by decide) rfl (fun ls hl => ?_)
          refine lv_goto (tgt := 3) hx hb dX8_feedWord_43 (by decide) ?_
          refine lv_iload_n hx hb dX8_feedWord_3 rfl (lv_at hl 0 rfl) ?_
          refine lv_if_lt (tgt := 46) hx hb dX8_feedWord_4 (by decide) (fun _ => ?_) (fun c9 => absurd (by decide) c9)
          exact gx_vret (w' := [(h0, .inr (8, [.ref a0, .int (nI (n + 4)), v2, v3, v4, v5, v6, v7, v8, v9, v10, v11])), (a0, .inl (cB, 4000, .inl (upd (upd (upd (upd f n (vp_nar .byte ((w >>> ((24 : Int32) &&& 31)).toInt8.toInt32))) (n + 1) (vp_nar .byte ((w >>> ((16 : Int32) &&& 31)).toInt8.toInt32))) ((n + 1) + 1) (vp_nar .byte ((w >>> ((8 : Int32) &&& 31)).toInt8.toInt32))) (((n + 1) + 1) + 1) (vp_nar .byte ((w >>> ((0 : Int32) &&& 31)).toInt8.toInt32)))))]) hx hb hr hlk hK hP hD hS (Nat.le_of_ble_eq_true rfl) (Nat.le_of_ble_eq_true rfl) dX8_feedWord_46 ⟨(upd (upd (upd (upd f n (vp_nar .byte ((w >>> ((24 : Int32) &&& 31)).toInt8.toInt32))) (n + 1) (vp_nar .byte ((w >>> ((16 : Int32) &&& 31)).toInt8.toInt32))) ((n + 1) + 1) (vp_nar .byte ((w >>> ((8 : Int32) &&& 31)).toInt8.toInt32))) (((n + 1) + 1) + 1) (vp_nar .byte ((w >>> ((0 : Int32) &&& 31)).toInt8.toInt32))), rfl, rfl⟩
def wsP_x_X8_feed : List Cond := .code yX8_feed cX8_feed 6 (some .int) :: (([.fieldLink RX8 62 "LitmusHall" "tapeSize" "I", .methodLink RX8 65 yX8_feedWord, .instanceMethod yX8_feedWord, .selects RX8 yX8_feedWord yX8_feedWord, .initialized RX8] ++ wsX80) ++ (wsP_x_X8_feedWord ++ []))
set_option maxRecDepth 20000 in
theorem gP_x_X8_feed__x_X8_feedWord : GoodIn wsP_x_X8_feed (wsV RX8 65 RX8 yX8_feedWord wsP_x_X8_feedWord) := gw_in (pre := [.methodLink RX8 65 yX8_feedWord, .instanceMethod yX8_feedWord, .selects RX8 yX8_feedWord yX8_feedWord, .initialized RX8]) (by decide +kernel) (fun _ h => List.mem_cons_of_mem _ (List.mem_append_right _ (List.mem_append_left _ h))) gW_x_X8_feedWord
set_option maxHeartbeats 4000000 in
set_option maxRecDepth 100000 in
theorem x_X8_feed (l : Launch) (D : va_G) (cI cB cZ : ClassId) (h0 : Nat) (a0 : Nat) (v2 : Value) (v3 : Value) (v4 : Value) (v5 : Value) (v6 : Value) (v7 : Value) (v8 : Value) (v9 : Value) (v10 : Value) (v11 : Value) (f : Nat → Int32) (n : Nat) (w1 : Int32) (w2 : Int32) (w3 : Int32) (w4 : Int32) (w5 : Int32) (hn : n ≤ 4000) : gMi l yX8_feed wsP_x_X8_feed ({ frames := 1, cells := 0, slots := 0, locals := 22 }) D cI cB cZ [] [.ref h0, .int w1, .int w2, .int w3, .int w4, .int w5] [(h0, .inr (8, [.ref a0, .int (nI n), v2, v3, v4, v5, v6, v7, v8, v9, v10, v11])), (a0, .inl (cB, 4000, .inl f))] (fun r9 w9 => ∃ g : Nat → Int32, ∃ z : Int32, ∃ m9 : Nat, ((3980 < n ∧ z = (-1) ∧ m9 = n ∧ g = f) ∨ (n ≤ 3980 ∧ z = nI (n + 20) ∧ m9 = n + 20 ∧ g = rF5 f n w1 w2 w3 w4 w5)) ∧ r9 = z ∧ w9 = [(h0, .inr (8, [.ref a0, .int (nI m9), v2, v3, v4, v5, v6, v7, v8, v9, v10, v11])), (a0, .inl (cB, 4000, .inl g))]) := by
  refine gMi.of (cc := cX8_feed) (maxL := 6) (ret := (some .int)) (by decide) rfl (Nat.le_of_ble_eq_true rfl) (fun p e s m below meth c A ls hx hb hr hlk hml hts hown hin hA hP hK hD hS hN hl => ?_)
  have hown : s.vm.findClass RX8 = some m.cls := hown
  have hl : lv_has ls 6 [(0, .ref h0), (1, .int w1), (2, .int w2), (3, .int w3), (4, .int w4), (5, .int w5)] := hl
  refine lv_aload_n hx hb dX8_feed_0 rfl (lv_at hl 0 rfl) ?_
  refine va_get (D := D) (ci := 8) (v := .int (nI n)) (C := RX8) (T := TX8) (N := 12) hx hb hts (fun _ h => List.mem_cons_of_mem _ (List.mem_append_left _ (List.mem_append_right _ h))) hown hK hP 0 rfl rfl 1 (by decide) (hts (.fieldLink RX8 62 "LitmusHall" "tapeSize" "I") (by decide +kernel)) (fun _ h9 => h9) rfl dX8_feed_1 ?_
  refine lv_bipush (v := 20) hx hb dX8_feed_4 (by decide) ?_
  refine lv_iadd hx hb dX8_feed_6 ?_
  refine gx_top (y := nI (n + 20)) (nI_add n 20) ?_
  refine lv_sipush (v := 4000) hx hb dX8_feed_7 (by decide) ?_
  refine gy_le (a := (n + 20)) (b := 4000) (tgt := 15) hx hb (by omega) (by omega) dX8_feed_10 (by decide) (fun c_1 => ?_) (fun c_1 => ?_)
  · refine lv_aload_n hx hb dX8_feed_15 rfl (lv_at hl 0 rfl) ?_
    refine lv_iload_n hx hb dX8_feed_16 rfl (lv_at hl 1 rfl) ?_
    refine gx_gov (wc := [(h0, .inr (8, [.ref a0, .int (nI n), v2, v3, v4, v5, v6, v7, v8, v9, v10, v11])), (a0, .inl (cB, 4000, .inl f))]) (wr := []) (va_runV (As := [.int w1]) (rest := []) ⟨hx, hb, hml, hown, hts⟩ (x_X8_feedWord l D cI cB cZ h0 a0 (v2) (v3) (v4) (v5) (v6) (v7) (v8) (v9) (v10) (v11) f n w1 (by omega) _) (cwV 1 hts gP_x_X8_feed__x_X8_feedWord rfl rfl rfl (by decide +kernel) ⟨Nat.le_of_ble_eq_true rfl, Nat.le_of_ble_eq_true rfl⟩) (gx_preV (ci := 8) (q0 := 0) hK gN.nil hP hD [0, 1] rfl rfl rfl rfl) rfl rfl hl.1 rfl (lv_room (Nat.le_of_ble_eq_true rfl)) dX8_feed_17 ⟨Nat.le_of_ble_eq_true rfl, Nat.le_of_ble_eq_true rfl⟩) hP hD hS hA [0, 1] [] rfl rfl rfl (by decide) (fun w1 H locs hp hP hD hS => ?_)
    obtain ⟨e_2, hx17_0, rfl⟩ := hp
    have hx17_0 : e_2 = rFd f n w1 := hx17_0
    refine lv_aload_n hx hb dX8_feed_20 rfl (lv_at hl 0 rfl) ?_
    refine lv_iload_n hx hb dX8_feed_21 rfl (lv_at hl 2 rfl) ?_
    refine gx_gov (wc := [(h0, .inr (8, [.ref a0, .int (nI (n + 4)), v2, v3, v4, v5, v6, v7, v8, v9, v10, v11])), (a0, .inl (cB, 4000, .inl e_2))]) (wr := []) (va_runV (As := [.int w2]) (rest := []) ⟨hx, hb, hml, hown, hts⟩ (x_X8_feedWord l D cI cB cZ h0 a0 (v2) (v3) (v4) (v5) (v6) (v7) (v8) (v9) (v10) (v11) e_2 (n + 4) w2 (by omega) _) (cwV 1 hts gP_x_X8_feed__x_X8_feedWord rfl rfl rfl (by decide +kernel) ⟨Nat.le_of_ble_eq_true rfl, Nat.le_of_ble_eq_true rfl⟩) (gx_preV (ci := 8) (q0 := 0) hK gN.nil hP hD [0, 1] rfl rfl rfl rfl) rfl rfl hl.1 rfl (lv_room (Nat.le_of_ble_eq_true rfl)) dX8_feed_22 ⟨Nat.le_of_ble_eq_true rfl, Nat.le_of_ble_eq_true rfl⟩) hP hD hS hA [0, 1] [] rfl rfl rfl (by decide) (fun w1 H locs hp hP hD hS => ?_)
    obtain ⟨e_3, hx22_0, rfl⟩ := hp
    have hx22_0 : e_3 = rFd e_2 (n + 4) w2 := hx22_0
    refine lv_aload_n hx hb dX8_feed_25 rfl (lv_at hl 0 rfl) ?_
    refine lv_iload_n hx hb dX8_feed_26 rfl (lv_at hl 3 rfl) ?_
    refine gx_gov (wc := [(h0, .inr (8, [.ref a0, .int (nI ((n + 4) + 4)), v2, v3, v4, v5, v6, v7, v8, v9, v10, v11])), (a0, .inl (cB, 4000, .inl e_3))]) (wr := []) (va_runV (As := [.int w3]) (rest := []) ⟨hx, hb, hml, hown, hts⟩ (x_X8_feedWord l D cI cB cZ h0 a0 (v2) (v3) (v4) (v5) (v6) (v7) (v8) (v9) (v10) (v11) e_3 ((n + 4) + 4) w3 (by omega) _) (cwV 1 hts gP_x_X8_feed__x_X8_feedWord rfl rfl rfl (by decide +kernel) ⟨Nat.le_of_ble_eq_true rfl, Nat.le_of_ble_eq_true rfl⟩) (gx_preV (ci := 8) (q0 := 0) hK gN.nil hP hD [0, 1] rfl rfl rfl rfl) rfl rfl hl.1 rfl (lv_room (Nat.le_of_ble_eq_true rfl)) dX8_feed_27 ⟨Nat.le_of_ble_eq_true rfl, Nat.le_of_ble_eq_true rfl⟩) hP hD hS hA [0, 1] [] rfl rfl rfl (by decide) (fun w1 H locs hp hP hD hS => ?_)
    obtain ⟨e_4, hx27_0, rfl⟩ := hp
    have hx27_0 : e_4 = rFd e_3 ((n + 4) + 4) w3 := hx27_0
    refine lv_aload_n hx hb dX8_feed_30 rfl (lv_at hl 0 rfl) ?_
    refine lv_iload hx hb dX8_feed_31 (lv_at hl 4 rfl) ?_
    refine gx_gov (wc := [(h0, .inr (8, [.ref a0, .int (nI (((n + 4) + 4) + 4)), v2, v3, v4, v5, v6, v7, v8, v9, v10, v11])), (a0, .inl (cB, 4000, .inl e_4))]) (wr := []) (va_runV (As := [.int w4]) (rest := []) ⟨hx, hb, hml, hown, hts⟩ (x_X8_feedWord l D cI cB cZ h0 a0 (v2) (v3) (v4) (v5) (v6) (v7) (v8) (v9) (v10) (v11) e_4 (((n + 4) + 4) + 4) w4 (by omega) _) (cwV 1 hts gP_x_X8_feed__x_X8_feedWord rfl rfl rfl (by decide +kernel) ⟨Nat.le_of_ble_eq_true rfl, Nat.le_of_ble_eq_true rfl⟩) (gx_preV (ci := 8) (q0 := 0) hK gN.nil hP hD [0, 1] rfl rfl rfl rfl) rfl rfl hl.1 rfl (lv_room (Nat.le_of_ble_eq_true rfl)) dX8_feed_33 ⟨Nat.le_of_ble_eq_true rfl, Nat.le_of_ble_eq_true rfl⟩) hP hD hS hA [0, 1] [] rfl rfl rfl (by decide) (fun w1 H locs hp hP hD hS => ?_)
    obtain ⟨e_5, hx33_0, rfl⟩ := hp
    have hx33_0 : e_5 = rFd e_4 (((n + 4) + 4) + 4) w4 := hx33_0
    refine lv_aload_n hx hb dX8_feed_36 rfl (lv_at hl 0 rfl) ?_
    refine lv_iload hx hb dX8_feed_37 (lv_at hl 5 rfl) ?_
    refine gx_gov (wc := [(h0, .inr (8, [.ref a0, .int (nI ((((n + 4) + 4) + 4) + 4)), v2, v3, v4, v5, v6, v7, v8, v9, v10, v11])), (a0, .inl (cB, 4000, .inl e_5))]) (wr := []) (va_runV (As := [.int w5]) (rest := []) ⟨hx, hb, hml, hown, hts⟩ (x_X8_feedWord l D cI cB cZ h0 a0 (v2) (v3) (v4) (v5) (v6) (v7) (v8) (v9) (v10) (v11) e_5 ((((n + 4) + 4) + 4) + 4) w5 (by omega) _) (cwV 1 hts gP_x_X8_feed__x_X8_feedWord rfl rfl rfl (by decide +kernel) ⟨Nat.le_of_ble_eq_true rfl, Nat.le_of_ble_eq_true rfl⟩) (gx_preV (ci := 8) (q0 := 0) hK gN.nil hP hD [0, 1] rfl rfl rfl rfl) rfl rfl hl.1 rfl (lv_room (Nat.le_of_ble_eq_true rfl)) dX8_feed_39 ⟨Nat.le_of_ble_eq_true rfl, Nat.le_of_ble_eq_true rfl⟩) hP hD hS hA [0, 1] [] rfl rfl rfl (by decide) (fun w1 H locs hp hP hD hS => ?_)
    obtain ⟨e_6, hx39_0, rfl⟩ := hp
    have hx39_0 : e_6 = rFd e_5 ((((n + 4) + 4) + 4) + 4) w5 := hx39_0
    refine lv_aload_n hx hb dX8_feed_42 rfl (lv_at hl 0 rfl) ?_
    refine va_get (D := D) (ci := 8) (v := .int (nI (((((n + 4) + 4) + 4) + 4) + 4))) (C := RX8) (T := TX8) (N := 12) hx hb hts (fun _ h => List.mem_cons_of_mem _ (List.mem_append_left _ (List.mem_append_right _ h))) hown hK hP 0 rfl rfl 1 (by decide) (hts (.fieldLink RX8 62 "LitmusHall" "tapeSize" "I") (by decide +kernel)) (fun _ h9 => h9) rfl dX8_feed_43 ?_
    exact gx_iret (w' := [(h0, .inr (8, [.ref a0, .int (nI (((((n + 4) + 4) + 4) + 4) + 4)), v2, v3, v4, v5, v6, v7, v8, v9, v10, v11])), (a0, .inl (cB, 4000, .inl e_6))]) hx hb hr hlk hK hP hD hS (Nat.le_of_ble_eq_true rfl) (Nat.le_of_ble_eq_true rfl) dX8_feed_46 ⟨e_6, (nI (((((n + 4) + 4) + 4) + 4) + 4)), (((((n + 4) + 4) + 4) + 4) + 4), (Or.inr ⟨by omega, rfl, rfl, rF5_c hx17_0 hx22_0 hx27_0 hx33_0 hx39_0 rfl rfl rfl rfl⟩), rfl, rfl⟩
  · refine lv_iconst (v := (-1)) hx hb dX8_feed_13 (by decide) ?_
    exact gx_iret (w' := [(h0, .inr (8, [.ref a0, .int (nI n), v2, v3, v4, v5, v6, v7, v8, v9, v10, v11])), (a0, .inl (cB, 4000, .inl f))]) hx hb hr hlk hK hP hD hS (Nat.le_of_ble_eq_true rfl) (Nat.le_of_ble_eq_true rfl) dX8_feed_14 ⟨f, (-1), n, (Or.inl ⟨by omega, rfl, rfl, rfl⟩), rfl, rfl⟩
def wsP_x_X9_byteRow : List Cond := .code yX9_byteRow cX9_byteRow 3 none :: (([.fieldLink RX9 88 "LitmusHallModel" "tape" "[B", .fieldLink RX9 116 "LitmusHallModel" "taped" "I"] ++ wsX90) ++ [])
theorem gW_x_X9_byteRow : wsP_x_X9_byteRow.all goodWord = true := by unfold wsP_x_X9_byteRow; exact gw_mk (by decide +kernel) rfl
set_option maxHeartbeats 4000000 in
set_option maxRecDepth 100000 in
theorem x_X9_byteRow (l : Launch) (D : va_G) (cI cB cZ : ClassId) (h0 : Nat) (a0 : Nat) (v0 : Value) (v1 : Value) (v2 : Value) (v3 : Value) (v4 : Value) (v5 : Value) (v6 : Value) (v7 : Value) (v8 : Value) (v9 : Value) (v10 : Value) (v11 : Value) (v12 : Value) (v13 : Value) (v14 : Value) (v15 : Value) (v16 : Value) (v17 : Value) (v18 : Value) (v19 : Value) (v20 : Value) (v21 : Value) (v22 : Value) (v23 : Value) (v24 : Value) (v25 : Value) (v26 : Value) (v29 : Value) (v30 : Value) (v31 : Value) (v32 : Value) (v33 : Value) (v34 : Value) (v35 : Value) (v36 : Value) (v37 : Value) (v38 : Value) (v39 : Value) (v40 : Value) (v41 : Value) (v42 : Value) (v43 : Value) (v44 : Value) (v45 : Value) (v46 : Value) (v47 : Value) (v48 : Value) (v49 : Value) (v50 : Value) (v51 : Value) (f : Nat → Int32) (n : Nat) (w : Int32) (hn : n ≤ 3996) : gMv l yX9_byteRow wsP_x_X9_byteRow ({ frames := 0, cells := 0, slots := 0, locals := 0 }) D cI cB cZ [] [.ref h0, .int w] [(h0, .inr (9, [v0, v1, v2, v3, v4, v5, v6, v7, v8, v9, v10, v11, v12, v13, v14, v15, v16, v17, v18, v19, v20, v21, v22, v23, v24, v25, v26, .ref a0, .int (nI n), v29, v30, v31, v32, v33, v34, v35, v36, v37, v38, v39, v40, v41, v42, v43, v44, v45, v46, v47, v48, v49, v50, v51])), (a0, .inl (cB, 4000, .inl f))] (fun w9 => ∃ g : Nat → Int32, (g = rFd f n w) ∧ w9 = [(h0, .inr (9, [v0, v1, v2, v3, v4, v5, v6, v7, v8, v9, v10, v11, v12, v13, v14, v15, v16, v17, v18, v19, v20, v21, v22, v23, v24, v25, v26, .ref a0, .int (nI (n + 4)), v29, v30, v31, v32, v33, v34, v35, v36, v37, v38, v39, v40, v41, v42, v43, v44, v45, v46, v47, v48, v49, v50, v51])), (a0, .inl (cB, 4000, .inl g))]) := by
  refine gMv.of (cc := cX9_byteRow) (maxL := 3) (ret := none) (by decide) rfl (Nat.le_of_ble_eq_true rfl) (fun p e s m below meth c A ls hx hb hr hlk hml hts hown hin hA hP hK hD hS hN hl => ?_)
  have hown : s.vm.findClass RX9 = some m.cls := hown
  have hl : lv_has ls 3 [(0, .ref h0), (1, .int w)] := hl
  refine lv_iconst (v := 3) hx hb dX9_byteRow_0 (by decide) ?_
  refine lv_istore_n (lv' := [(2, .int 3), (0, .ref h0), (1, .int w)]) hx hb dX9_byteRow_1 rfl hl (by decide) rfl (fun ls hl => ?_)
  refine lv_iload_n hx hb dX9_byteRow_2 rfl (lv_at hl 0 rfl) ?_
  refine lv_if_lt (tgt := 38) hx hb dX9_byteRow_3 (by decide) (fun c9 => absurd c9 (by decide)) (fun _ => ?_)
  refine lv_aload_n hx hb dX9_byteRow_6 rfl (lv_at hl 1 rfl) ?_
  refine va_get (D := D) (ci := 9) (v := .ref a0) (C := RX9) (T := TX9) (N := 52) hx hb hts (fun _ h => List.mem_cons_of_mem _ (List.mem_append_left _ (List.mem_append_right _ h))) hown hK hP 0 rfl rfl 27 (by decide) (hts (.fieldLink RX9 88 "LitmusHallModel" "tape" "[B") (by decide +kernel)) (fun _ h9 => h9) rfl dX9_byteRow_7 ?_
  refine lv_aload_n hx hb dX9_byteRow_10 rfl (lv_at hl 1 rfl) ?_
  refine va_get (D := D) (ci := 9) (v := .int (nI n)) (C := RX9) (T := TX9) (N := 52) hx hb hts (fun _ h => List.mem_cons_of_mem _ (List.mem_append_left _ (List.mem_append_right _ h))) hown hK hP 0 rfl rfl 28 (by decide) (hts (.fieldLink RX9 116 "LitmusHallModel" "taped" "I") (by decide +kernel)) (fun _ h9 => h9) rfl dX9_byteRow_11 ?_
  refine lv_iload_n hx hb dX9_byteRow_14 rfl (lv_at hl 2 rfl) ?_
  refine lv_bipush (v := 8) hx hb dX9_byteRow_15 (by decide) ?_
  refine lv_iload_n hx hb dX9_byteRow_17 rfl (lv_at hl 0 rfl) ?_
  refine lv_imul hx hb dX9_byteRow_18 ?_
  refine gx_top (y := 24) (by decide +kernel) ?_
  refine lv_iushr (v := ((w).toUInt32 >>> ((24 : Int32).toUInt32 &&& Int32.toUInt32 31)).toInt32) hx hb dX9_byteRow_19 rfl ?_
  refine lv_i2b (v := (((w).toUInt32 >>> ((24 : Int32).toUInt32 &&& Int32.toUInt32 31)).toInt32).toInt8.toInt32) hx hb dX9_byteRow_20 rfl ?_
  refine gy_bst (i := n) hx hb hK hP hD hS 1 rfl (by omega) (by omega) dX9_byteRow_21 (fun H locs hP hD hS => ?_)
  have hP : va_P D vwCl [(h0, .inr (9, [v0, v1, v2, v3, v4, v5, v6, v7, v8, v9, v10, v11, v12, v13, v14, v15, v16, v17, v18, v19, v20, v21, v22, v23, v24, v25, v26, .ref a0, .int (nI n), v29, v30, v31, v32, v33, v34, v35, v36, v37, v38, v39, v40, v41, v42, v43, v44, v45, v46, v47, v48, v49, v50, v51])), (a0, .inl (cB, 4000, .inl (upd f n (vp_nar .byte ((((w).toUInt32 >>> ((24 : Int32).toUInt32 &&& Int32.toUInt32 31)).toInt32).toInt8.toInt32)))))] H := hP
  have hD : va_D A [(h0, .inr (9, [v0, v1, v2, v3, v4, v5, v6, v7, v8, v9, v10, v11, v12, v13, v14, v15, v16, v17, v18, v19, v20, v21, v22, v23, v24, v25, v26, .ref a0, .int (nI n), v29, v30, v31, v32, v33, v34, v35, v36, v37, v38, v39, v40, v41, v42, v43, v44, v45, v46, v47, v48, v49, v50, v51])), (a0, .inl (cB, 4000, .inl (upd f n (vp_nar .byte ((((w).toUInt32 >>> ((24 : Int32).toUInt32 &&& Int32.toUInt32 31)).toInt32).toInt8.toInt32)))))] := hD
  refine lv_aload_n hx hb dX9_byteRow_22 rfl (lv_at hl 1 rfl) ?_
  refine lv_dup hx hb dX9_byteRow_23 rfl ?_
  refine va_get (D := D) (ci := 9) (v := .int (nI n)) (C := RX9) (T := TX9) (N := 52) hx hb hts (fun _ h => List.mem_cons_of_mem _ (List.mem_append_left _ (List.mem_append_right _ h))) hown hK hP 0 rfl rfl 28 (by decide) (hts (.fieldLink RX9 116 "LitmusHallModel" "taped" "I") (by decide +kernel)) (fun _ h9 => h9) rfl dX9_byteRow_24 ?_
  refine lv_iconst (v := 1) hx hb dX9_byteRow_27 (by decide) ?_
  refine lv_iadd hx hb dX9_byteRow_28 ?_
  refine gx_top (y := nI (n + 1)) (nI_add n 1) ?_
  refine va_put (D := D) (ci := 9) (v := .int (nI (n + 1))) (ty := .int) (C := RX9) (T := TX9) (N := 52) hx hb hts (fun _ h => List.mem_cons_of_mem _ (List.mem_append_left _ (List.mem_append_right _ h))) tyX9 tyX9_ok nmX9 hown hK hP hD hS 0 rfl rfl 28 (by decide) (hts (.fieldLink RX9 116 "LitmusHallModel" "taped" "I") (by decide +kernel)) (fun _ h9 => h9) rfl (by decide +kernel) rfl rfl (Nat.le_of_ble_eq_true rfl) dX9_byteRow_29 (fun H locs hP hD hS => ?_)
  have hP : va_P D vwCl [(h0, .inr (9, [v0, v1, v2, v3, v4, v5, v6, v7, v8, v9, v10, v11, v12, v13, v14, v15, v16, v17, v18, v19, v20, v21, v22, v23, v24, v25, v26, .ref a0, .int (nI (n + 1)), v29, v30, v31, v32, v33, v34, v35, v36, v37, v38, v39, v40, v41, v42, v43, v44, v45, v46, v47, v48, v49, v50, v51])), (a0, .inl (cB, 4000, .inl (upd f n (vp_nar .byte ((((w).toUInt32 >>> ((24 : Int32).toUInt32 &&& Int32.toUInt32 31)).toInt32).toInt8.toInt32)))))] H := hP
  have hD : va_D A [(h0, .inr (9, [v0, v1, v2, v3, v4, v5, v6, v7, v8, v9, v10, v11, v12, v13, v14, v15, v16, v17, v18, v19, v20, v21, v22, v23, v24, v25, v26, .ref a0, .int (nI (n + 1)), v29, v30, v31, v32, v33, v34, v35, v36, v37, v38, v39, v40, v41, v42, v43, v44, v45, v46, v47, v48, v49, v50, v51])), (a0, .inl (cB, 4000, .inl (upd f n (vp_nar .byte ((((w).toUInt32 >>> ((24 : Int32).toUInt32 &&& Int32.toUInt32 31)).toInt32).toInt8.toInt32)))))] := hD
  refine lv_iinc (v := 2) (lv' := [(2, .int 2), (0, .ref h0), (1, .int w)]) hx hb dX9_byteRow_32 hl (k := 0) rfl (by decide +kernel) (by decide) rfl (fun ls hl => ?_)
  refine lv_goto (tgt := 2) hx hb dX9_byteRow_35 (by decide) ?_
  refine lv_iload_n hx hb dX9_byteRow_2 rfl (lv_at hl 0 rfl) ?_
  refine lv_if_lt (tgt := 38) hx hb dX9_byteRow_3 (by decide) (fun c9 => absurd c9 (by decide)) (fun _ => ?_)
  refine lv_aload_n hx hb dX9_byteRow_6 rfl (lv_at hl 1 rfl) ?_
  refine va_get (D := D) (ci := 9) (v := .ref a0) (C := RX9) (T := TX9) (N := 52) hx hb hts (fun _ h => List.mem_cons_of_mem _ (List.mem_append_left _ (List.mem_append_right _ h))) hown hK hP 0 rfl rfl 27 (by decide) (hts (.fieldLink RX9 88 "LitmusHallModel" "tape" "[B") (by decide +kernel)) (fun _ h9 => h9) rfl dX9_byteRow_7 ?_
  refine lv_aload_n hx hb dX9_byteRow_10 rfl (lv_at hl 1 rfl) ?_
  refine va_get (D := D) (ci := 9) (v := .int (nI (n + 1))) (C := RX9) (T := TX9) (N := 52) hx hb hts (fun _ h => List.mem_cons_of_mem _ (List.mem_append_left _ (List.mem_append_right _ h))) hown hK hP 0 rfl rfl 28 (by decide) (hts (.fieldLink RX9 116 "LitmusHallModel" "taped" "I") (by decide +kernel)) (fun _ h9 => h9) rfl dX9_byteRow_11 ?_
  refine lv_iload_n hx hb dX9_byteRow_14 rfl (lv_at hl 2 rfl) ?_
  refine lv_bipush (v := 8) hx hb dX9_byteRow_15 (by decide) ?_
  refine lv_iload_n hx hb dX9_byteRow_17 rfl (lv_at hl 0 rfl) ?_
  refine lv_imul hx hb dX9_byteRow_18 ?_
  refine gx_top (y := 16) (by decide +kernel) ?_
  refine lv_iushr (v := ((w).toUInt32 >>> ((16 : Int32).toUInt32 &&& Int32.toUInt32 31)).toInt32) hx hb dX9_byteRow_19 rfl ?_
  refine lv_i2b (v := (((w).toUInt32 >>> ((16 : Int32).toUInt32 &&& Int32.toUInt32 31)).toInt32).toInt8.toInt32) hx hb dX9_byteRow_20 rfl ?_
  refine gy_bst (i := (n + 1)) hx hb hK hP hD hS 1 rfl (by omega) (by omega) dX9_byteRow_21 (fun H locs hP hD hS => ?_)
  have hP : va_P D vwCl [(h0, .inr (9, [v0, v1, v2, v3, v4, v5, v6, v7, v8, v9, v10, v11, v12, v13, v14, v15, v16, v17, v18, v19, v20, v21, v22, v23, v24, v25, v26, .ref a0, .int (nI (n + 1)), v29, v30, v31, v32, v33, v34, v35, v36, v37, v38, v39, v40, v41, v42, v43, v44, v45, v46, v47, v48, v49, v50, v51])), (a0, .inl (cB, 4000, .inl (upd (upd f n (vp_nar .byte ((((w).toUInt32 >>> ((24 : Int32).toUInt32 &&& Int32.toUInt32 31)).toInt32).toInt8.toInt32))) (n + 1) (vp_nar .byte ((((w).toUInt32 >>> ((16 : Int32).toUInt32 &&& Int32.toUInt32 31)).toInt32).toInt8.toInt32)))))] H := hP
  have hD : va_D A [(h0, .inr (9, [v0, v1, v2, v3, v4, v5, v6, v7, v8, v9, v10, v11, v12, v13, v14, v15, v16, v17, v18, v19, v20, v21, v22, v23, v24, v25, v26, .ref a0, .int (nI (n + 1)), v29, v30, v31, v32, v33, v34, v35, v36, v37, v38, v39, v40, v41, v42, v43, v44, v45, v46, v47, v48, v49, v50, v51])), (a0, .inl (cB, 4000, .inl (upd (upd f n (vp_nar .byte ((((w).toUInt32 >>> ((24 : Int32).toUInt32 &&& Int32.toUInt32 31)).toInt32).toInt8.toInt32))) (n + 1) (vp_nar .byte ((((w).toUInt32 >>> ((16 : Int32).toUInt32 &&& Int32.toUInt32 31)).toInt32).toInt8.toInt32)))))] := hD
  refine lv_aload_n hx hb dX9_byteRow_22 rfl (lv_at hl 1 rfl) ?_
  refine lv_dup hx hb dX9_byteRow_23 rfl ?_
  refine va_get (D := D) (ci := 9) (v := .int (nI (n + 1))) (C := RX9) (T := TX9) (N := 52) hx hb hts (fun _ h => List.mem_cons_of_mem _ (List.mem_append_left _ (List.mem_append_right _ h))) hown hK hP 0 rfl rfl 28 (by decide) (hts (.fieldLink RX9 116 "LitmusHallModel" "taped" "I") (by decide +kernel)) (fun _ h9 => h9) rfl dX9_byteRow_24 ?_
  refine lv_iconst (v := 1) hx hb dX9_byteRow_27 (by decide) ?_
  refine lv_iadd hx hb dX9_byteRow_28 ?_
  refine gx_top (y := nI ((n + 1) + 1)) (nI_add (n + 1) 1) ?_
  refine va_put (D := D) (ci := 9) (v := .int (nI ((n + 1) + 1))) (ty := .int) (C := RX9) (T := TX9) (N := 52) hx hb hts (fun _ h => List.mem_cons_of_mem _ (List.mem_append_left _ (List.mem_append_right _ h))) tyX9 tyX9_ok nmX9 hown hK hP hD hS 0 rfl rfl 28 (by decide) (hts (.fieldLink RX9 116 "LitmusHallModel" "taped" "I") (by decide +kernel)) (fun _ h9 => h9) rfl (by decide +kernel) rfl rfl (Nat.le_of_ble_eq_true rfl) dX9_byteRow_29 (fun H locs hP hD hS => ?_)
  have hP : va_P D vwCl [(h0, .inr (9, [v0, v1, v2, v3, v4, v5, v6, v7, v8, v9, v10, v11, v12, v13, v14, v15, v16, v17, v18, v19, v20, v21, v22, v23, v24, v25, v26, .ref a0, .int (nI ((n + 1) + 1)), v29, v30, v31, v32, v33, v34, v35, v36, v37, v38, v39, v40, v41, v42, v43, v44, v45, v46, v47, v48, v49, v50, v51])), (a0, .inl (cB, 4000, .inl (upd (upd f n (vp_nar .byte ((((w).toUInt32 >>> ((24 : Int32).toUInt32 &&& Int32.toUInt32 31)).toInt32).toInt8.toInt32))) (n + 1) (vp_nar .byte ((((w).toUInt32 >>> ((16 : Int32).toUInt32 &&& Int32.toUInt32 31)).toInt32).toInt8.toInt32)))))] H := hP
  have hD : va_D A [(h0, .inr (9, [v0, v1, v2, v3, v4, v5, v6, v7, v8, v9, v10, v11, v12, v13, v14, v15, v16, v17, v18, v19, v20, v21, v22, v23, v24, v25, v26, .ref a0, .int (nI ((n + 1) + 1)), v29, v30, v31, v32, v33, v34, v35, v36, v37, v38, v39, v40, v41, v42, v43, v44, v45, v46, v47, v48, v49, v50, v51])), (a0, .inl (cB, 4000, .inl (upd (upd f n (vp_nar .byte ((((w).toUInt32 >>> ((24 : Int32).toUInt32 &&& Int32.toUInt32 31)).toInt32).toInt8.toInt32))) (n + 1) (vp_nar .byte ((((w).toUInt32 >>> ((16 : Int32).toUInt32 &&& Int32.toUInt32 31)).toInt32).toInt8.toInt32)))))] := hD
  refine lv_iinc (v := 1) (lv' := [(2, .int 1), (0, .ref h0), (1, .int w)]) hx hb dX9_byteRow_32 hl (k := 0) rfl (by decide +kernel) (by decide) rfl (fun ls hl => ?_)
  refine lv_goto (tgt := 2) hx hb dX9_byteRow_35 (by decide) ?_
  refine lv_iload_n hx hb dX9_byteRow_2 rfl (lv_at hl 0 rfl) ?_
  refine lv_if_lt (tgt := 38) hx hb dX9_byteRow_3 (by decide) (fun c9 => absurd c9 (by decide)) (fun _ => ?_)
  refine lv_aload_n hx hb dX9_byteRow_6 rfl (lv_at hl 1 rfl) ?_
  refine va_get (D := D) (ci := 9) (v := .ref a0) (C := RX9) (T := TX9) (N := 52) hx hb hts (fun _ h => List.mem_cons_of_mem _ (List.mem_append_left _ (List.mem_append_right _ h))) hown hK hP 0 rfl rfl 27 (by decide) (hts (.fieldLink RX9 88 "LitmusHallModel" "tape" "[B") (by decide +kernel)) (fun _ h9 => h9) rfl dX9_byteRow_7 ?_
  refine lv_aload_n hx hb dX9_byteRow_10 rfl (lv_at hl 1 rfl) ?_
  refine va_get (D := D) (ci := 9) (v := .int (nI ((n + 1) + 1))) (C := RX9) (T := TX9) (N := 52) hx hb hts (fun _ h => List.mem_cons_of_mem _ (List.mem_append_left _ (List.mem_append_right _ h))) hown hK hP 0 rfl rfl 28 (by decide) (hts (.fieldLink RX9 116 "LitmusHallModel" "taped" "I") (by decide +kernel)) (fun _ h9 => h9) rfl dX9_byteRow_11 ?_
  refine lv_iload_n hx hb dX9_byteRow_14 rfl (lv_at hl 2 rfl) ?_
  refine lv_bipush (v := 8) hx hb dX9_byteRow_15 (by decide) ?_
  refine lv_iload_n hx hb dX9_byteRow_17 rfl (lv_at hl 0 rfl) ?_
  refine lv_imul hx hb dX9_byteRow_18 ?_
  refine gx_top (y := 8) (by decide +kernel) ?_
  refine lv_iushr (v := ((w).toUInt32 >>> ((8 : Int32).toUInt32 &&& Int32.toUInt32 31)).toInt32) hx hb dX9_byteRow_19 rfl ?_
  refine lv_i2b (v := (((w).toUInt32 >>> ((8 : Int32).toUInt32 &&& Int32.toUInt32 31)).toInt32).toInt8.toInt32) hx hb dX9_byteRow_20 rfl ?_
  refine gy_bst (i := ((n + 1) + 1)) hx hb hK hP hD hS 1 rfl (by omega) (by omega) dX9_byteRow_21 (fun H locs hP hD hS => ?_)
  have hP : va_P D vwCl [(h0, .inr (9, [v0, v1, v2, v3, v4, v5, v6, v7, v8, v9, v10, v11, v12, v13, v14, v15, v16, v17, v18, v19, v20, v21, v22, v23, v24, v25, v26, .ref a0, .int (nI ((n + 1) + 1)), v29, v30, v31, v32, v33, v34, v35, v36, v37, v38, v39, v40, v41, v42, v43, v44, v45, v46, v47, v48, v49, v50, v51])), (a0, .inl (cB, 4000, .inl (upd (upd (upd f n (vp_nar .byte ((((w).toUInt32 >>> ((24 : Int32).toUInt32 &&& Int32.toUInt32 31)).toInt32).toInt8.toInt32))) (n + 1) (vp_nar .byte ((((w).toUInt32 >>> ((16 : Int32).toUInt32 &&& Int32.toUInt32 31)).toInt32).toInt8.toInt32))) ((n + 1) + 1) (vp_nar .byte ((((w).toUInt32 >>> ((8 : Int32).toUInt32 &&& Int32.toUInt32 31)).toInt32).toInt8.toInt32)))))] H := hP
  have hD : va_D A [(h0, .inr (9, [v0, v1, v2, v3, v4, v5, v6, v7, v8, v9, v10, v11, v12, v13, v14, v15, v16, v17, v18, v19, v20, v21, v22, v23, v24, v25, v26, .ref a0, .int (nI ((n + 1) + 1)), v29, v30, v31, v32, v33, v34, v35, v36, v37, v38, v39, v40, v41, v42, v43, v44, v45, v46, v47, v48, v49, v50, v51])), (a0, .inl (cB, 4000, .inl (upd (upd (upd f n (vp_nar .byte ((((w).toUInt32 >>> ((24 : Int32).toUInt32 &&& Int32.toUInt32 31)).toInt32).toInt8.toInt32))) (n + 1) (vp_nar .byte ((((w).toUInt32 >>> ((16 : Int32).toUInt32 &&& Int32.toUInt32 31)).toInt32).toInt8.toInt32))) ((n + 1) + 1) (vp_nar .byte ((((w).toUInt32 >>> ((8 : Int32).toUInt32 &&& Int32.toUInt32 31)).toInt32).toInt8.toInt32)))))] := hD
  refine lv_aload_n hx hb dX9_byteRow_22 rfl (lv_at hl 1 rfl) ?_
  refine lv_dup hx hb dX9_byteRow_23 rfl ?_
  refine va_get (D := D) (ci := 9) (v := .int (nI ((n + 1) + 1))) (C := RX9) (T := TX9) (N := 52) hx hb hts (fun _ h => List.mem_cons_of_mem _ (List.mem_append_left _ (List.mem_append_right _ h))) hown hK hP 0 rfl rfl 28 (by decide) (hts (.fieldLink RX9 116 "LitmusHallModel" "taped" "I") (by decide +kernel)) (fun _ h9 => h9) rfl dX9_byteRow_24 ?_
  refine lv_iconst (v := 1) hx hb dX9_byteRow_27 (by decide) ?_
  refine lv_iadd hx hb dX9_byteRow_28 ?_
  refine gx_top (y := nI (((n + 1) + 1) + 1)) (nI_add ((n + 1) + 1) 1) ?_
  refine va_put (D := D) (ci := 9) (v := .int (nI (((n + 1) + 1) + 1))) (ty := .int) (C := RX9) (T := TX9) (N := 52) hx hb hts (fun _ h => List.mem_cons_of_mem _ (List.mem_append_left _ (List.mem_append_right _ h))) tyX9 tyX9_ok nmX9 hown hK hP hD hS 0 rfl rfl 28 (by decide) (hts (.fieldLink RX9 116 "LitmusHallModel" "taped" "I") (by decide +kernel)) (fun _ h9 => h9) rfl (by decide +kernel) rfl rfl (Nat.le_of_ble_eq_true rfl) dX9_byteRow_29 (fun H locs hP hD hS => ?_)
  have hP : va_P D vwCl [(h0, .inr (9, [v0, v1, v2, v3, v4, v5, v6, v7, v8, v9, v10, v11, v12, v13, v14, v15, v16, v17, v18, v19, v20, v21, v22, v23, v24, v25, v26, .ref a0, .int (nI (((n + 1) + 1) + 1)), v29, v30, v31, v32, v33, v34, v35, v36, v37, v38, v39, v40, v41, v42, v43, v44, v45, v46, v47, v48, v49, v50, v51])), (a0, .inl (cB, 4000, .inl (upd (upd (upd f n (vp_nar .byte ((((w).toUInt32 >>> ((24 : Int32).toUInt32 &&& Int32.toUInt32 31)).toInt32).toInt8.toInt32))) (n + 1) (vp_nar .byte ((((w).toUInt32 >>> ((16 : Int32).toUInt32 &&& Int32.toUInt32 31)).toInt32).toInt8.toInt32))) ((n + 1) + 1) (vp_nar .byte ((((w).toUInt32 >>> ((8 : Int32).toUInt32 &&& Int32.toUInt32 31)).toInt32).toInt8.toInt32)))))] H := hP
  have hD : va_D A [(h0, .inr (9, [v0, v1, v2, v3, v4, v5, v6, v7, v8, v9, v10, v11, v12, v13, v14, v15, v16, v17, v18, v19, v20, v21, v22, v23, v24, v25, v26, .ref a0, .int (nI (((n + 1) + 1) + 1)), v29, v30, v31, v32, v33, v34, v35, v36, v37, v38, v39, v40, v41, v42, v43, v44, v45, v46, v47, v48, v49, v50, v51])), (a0, .inl (cB, 4000, .inl (upd (upd (upd f n (vp_nar .byte ((((w).toUInt32 >>> ((24 : Int32).toUInt32 &&& Int32.toUInt32 31)).toInt32).toInt8.toInt32))) (n + 1) (vp_nar .byte ((((w).toUInt32 >>> ((16 : Int32).toUInt32 &&& Int32.toUInt32 31)).toInt32).toInt8.toInt32))) ((n + 1) + 1) (vp_nar .byte ((((w).toUInt32 >>> ((8 : Int32).toUInt32 &&& Int32.toUInt32 31)).toInt32).toInt8.toInt32)))))] := hD
  refine lv_iinc (v := 0) (lv' := [(2, .int 0), (0, .ref h0), (1, .int w)]) hx hb dX9_byteRow_32 hl (k := 0) rfl (by decide +kernel) (by decide) rfl (fun ls hl => ?_)
  refine lv_goto (tgt := 2) hx hb dX9_byteRow_35 (by decide) ?_
  refine lv_iload_n hx hb dX9_byteRow_2 rfl (lv_at hl 0 rfl) ?_
  refine lv_if_lt (tgt := 38) hx hb dX9_byteRow_3 (by decide) (fun c9 => absurd c9 (by decide)) (fun _ => ?_)
  refine lv_aload_n hx hb dX9_byteRow_6 rfl (lv_at hl 1 rfl) ?_
  refine va_get (D := D) (ci := 9) (v := .ref a0) (C := RX9) (T := TX9) (N := 52) hx hb hts (fun _ h => List.mem_cons_of_mem _ (List.mem_append_left _ (List.mem_append_right _ h))) hown hK hP 0 rfl rfl 27 (by decide) (hts (.fieldLink RX9 88 "LitmusHallModel" "tape" "[B") (by decide +kernel)) (fun _ h9 => h9) rfl dX9_byteRow_7 ?_
  refine lv_aload_n hx hb dX9_byteRow_10 rfl (lv_at hl 1 rfl) ?_
  refine va_get (D := D) (ci := 9) (v := .int (nI (((n + 1) + 1) + 1))) (C := RX9) (T := TX9) (N := 52) hx hb hts (fun _ h => List.mem_cons_of_mem _ (List.mem_append_left _ (List.mem_append_right _ h))) hown hK hP 0 rfl rfl 28 (by decide) (hts (.fieldLink RX9 116 "LitmusHallModel" "taped" "I") (by decide +kernel)) (fun _ h9 => h9) rfl dX9_byteRow_11 ?_
  refine lv_iload_n hx hb dX9_byteRow_14 rfl (lv_at hl 2 rfl) ?_
  refine lv_bipush (v := 8) hx hb dX9_byteRow_15 (by decide) ?_
  refine lv_iload_n hx hb dX9_byteRow_17 rfl (lv_at hl 0 rfl) ?_
  refine lv_imul hx hb dX9_byteRow_18 ?_
  refine gx_top (y := 0) (by decide +kernel) ?_
  refine lv_iushr (v := ((w).toUInt32 >>> ((0 : Int32).toUInt32 &&& Int32.toUInt32 31)).toInt32) hx hb dX9_byteRow_19 rfl ?_
  refine lv_i2b (v := (((w).toUInt32 >>> ((0 : Int32).toUInt32 &&& Int32.toUInt32 31)).toInt32).toInt8.toInt32) hx hb dX9_byteRow_20 rfl ?_
  refine gy_bst (i := (((n + 1) + 1) + 1)) hx hb hK hP hD hS 1 rfl (by omega) (by omega) dX9_byteRow_21 (fun H locs hP hD hS => ?_)
  have hP : va_P D vwCl [(h0, .inr (9, [v0, v1, v2, v3, v4, v5, v6, v7, v8, v9, v10, v11, v12, v13, v14, v15, v16, v17, v18, v19, v20, v21, v22, v23, v24, v25, v26, .ref a0, .int (nI (((n + 1) + 1) + 1)), v29, v30, v31, v32, v33, v34, v35, v36, v37, v38, v39, v40, v41, v42, v43, v44, v45, v46, v47, v48, v49, v50, v51])), (a0, .inl (cB, 4000, .inl (upd (upd (upd (upd f n (vp_nar .byte ((((w).toUInt32 >>> ((24 : Int32).toUInt32 &&& Int32.toUInt32 31)).toInt32).toInt8.toInt32))) (n + 1) (vp_nar .byte ((((w).toUInt32 >>> ((16 : Int32).toUInt32 &&& Int32.toUInt32 31)).toInt32).toInt8.toInt32))) ((n + 1) + 1) (vp_nar .byte ((((w).toUInt32 >>> ((8 : Int32).toUInt32 &&& Int32.toUInt32 31)).toInt32).toInt8.toInt32))) (((n + 1) + 1) + 1) (vp_nar .byte ((((w).toUInt32 >>> ((0 : Int32).toUInt32 &&& Int32.toUInt32 31)).toInt32).toInt8.toInt32)))))] H := hP
  have hD : va_D A [(h0, .inr (9, [v0, v1, v2, v3, v4, v5, v6, v7, v8, v9, v10, v11, v12, v13, v14, v15, v16, v17, v18, v19, v20, v21, v22, v23, v24, v25, v26, .ref a0, .int (nI (((n + 1) + 1) + 1)), v29, v30, v31, v32, v33, v34, v35, v36, v37, v38, v39, v40, v41, v42, v43, v44, v45, v46, v47, v48, v49, v50, v51])), (a0, .inl (cB, 4000, .inl (upd (upd (upd (upd f n (vp_nar .byte ((((w).toUInt32 >>> ((24 : Int32).toUInt32 &&& Int32.toUInt32 31)).toInt32).toInt8.toInt32))) (n + 1) (vp_nar .byte ((((w).toUInt32 >>> ((16 : Int32).toUInt32 &&& Int32.toUInt32 31)).toInt32).toInt8.toInt32))) ((n + 1) + 1) (vp_nar .byte ((((w).toUInt32 >>> ((8 : Int32).toUInt32 &&& Int32.toUInt32 31)).toInt32).toInt8.toInt32))) (((n + 1) + 1) + 1) (vp_nar .byte ((((w).toUInt32 >>> ((0 : Int32).toUInt32 &&& Int32.toUInt32 31)).toInt32).toInt8.toInt32)))))] := hD
  refine lv_aload_n hx hb dX9_byteRow_22 rfl (lv_at hl 1 rfl) ?_
  refine lv_dup hx hb dX9_byteRow_23 rfl ?_
  refine va_get (D := D) (ci := 9) (v := .int (nI (((n + 1) + 1) + 1))) (C := RX9) (T := TX9) (N := 52) hx hb hts (fun _ h => List.mem_cons_of_mem _ (List.mem_append_left _ (List.mem_append_right _ h))) hown hK hP 0 rfl rfl 28 (by decide) (hts (.fieldLink RX9 116 "LitmusHallModel" "taped" "I") (by decide +kernel)) (fun _ h9 => h9) rfl dX9_byteRow_24 ?_
  refine lv_iconst (v := 1) hx hb dX9_byteRow_27 (by decide) ?_
  refine lv_iadd hx hb dX9_byteRow_28 ?_
  refine gx_top (y := nI ((((n + 1) + 1) + 1) + 1)) (nI_add (((n + 1) + 1) + 1) 1) ?_
  refine va_put (D := D) (ci := 9) (v := .int (nI ((((n + 1) + 1) + 1) + 1))) (ty := .int) (C := RX9) (T := TX9) (N := 52) hx hb hts (fun _ h => List.mem_cons_of_mem _ (List.mem_append_left _ (List.mem_append_right _ h))) tyX9 tyX9_ok nmX9 hown hK hP hD hS 0 rfl rfl 28 (by decide) (hts (.fieldLink RX9 116 "LitmusHallModel" "taped" "I") (by decide +kernel)) (fun _ h9 => h9) rfl (by decide +kernel) rfl rfl (Nat.le_of_ble_eq_true rfl) dX9_byteRow_29 (fun H locs hP hD hS => ?_)
  have hP : va_P D vwCl [(h0, .inr (9, [v0, v1, v2, v3, v4, v5, v6, v7, v8, v9, v10, v11, v12, v13, v14, v15, v16, v17, v18, v19, v20, v21, v22, v23, v24, v25, v26, .ref a0, .int (nI ((((n + 1) + 1) + 1) + 1)), v29, v30, v31, v32, v33, v34, v35, v36, v37, v38, v39, v40, v41, v42, v43, v44, v45, v46, v47, v48, v49, v50, v51])), (a0, .inl (cB, 4000, .inl (upd (upd (upd (upd f n (vp_nar .byte ((((w).toUInt32 >>> ((24 : Int32).toUInt32 &&& Int32.toUInt32 31)).toInt32).toInt8.toInt32))) (n + 1) (vp_nar .byte ((((w).toUInt32 >>> ((16 : Int32).toUInt32 &&& Int32.toUInt32 31)).toInt32).toInt8.toInt32))) ((n + 1) + 1) (vp_nar .byte ((((w).toUInt32 >>> ((8 : Int32).toUInt32 &&& Int32.toUInt32 31)).toInt32).toInt8.toInt32))) (((n + 1) + 1) + 1) (vp_nar .byte ((((w).toUInt32 >>> ((0 : Int32).toUInt32 &&& Int32.toUInt32 31)).toInt32).toInt8.toInt32)))))] H := hP
  have hD : va_D A [(h0, .inr (9, [v0, v1, v2, v3, v4, v5, v6, v7, v8, v9, v10, v11, v12, v13, v14, v15, v16, v17, v18, v19, v20, v21, v22, v23, v24, v25, v26, .ref a0, .int (nI ((((n + 1) + 1) + 1) + 1)), v29, v30, v31, v32, v33, v34, v35, v36, v37, v38, v39, v40, v41, v42, v43, v44, v45, v46, v47, v48, v49, v50, v51])), (a0, .inl (cB, 4000, .inl (upd (upd (upd (upd f n (vp_nar .byte ((((w).toUInt32 >>> ((24 : Int32).toUInt32 &&& Int32.toUInt32 31)).toInt32).toInt8.toInt32))) (n + 1) (vp_nar .byte ((((w).toUInt32 >>> ((16 : Int32).toUInt32 &&& Int32.toUInt32 31)).toInt32).toInt8.toInt32))) ((n + 1) + 1) (vp_nar .byte ((((w).toUInt32 >>> ((8 : Int32).toUInt32 &&& Int32.toUInt32 31)).toInt32).toInt8.toInt32))) (((n + 1) + 1) + 1) (vp_nar .byte ((((w).toUInt32 >>> ((0 : Int32).toUInt32 &&& Int32.toUInt32 31)).toInt32).toInt8.toInt32)))))] := hD
  refine lv_iinc (v := (-1)) (lv' := [(2, .int (-1)), (0, .ref h0), (1, .int w)]) hx hb dX9_byteRow_32 hl (k := 0) rfl (by decide +kernel) (by decide) rfl (fun ls hl => ?_)
  refine lv_goto (tgt := 2) hx hb dX9_byteRow_35 (by decide) ?_
  refine lv_iload_n hx hb dX9_byteRow_2 rfl (lv_at hl 0 rfl) ?_
  refine lv_if_lt (tgt := 38) hx hb dX9_byteRow_3 (by decide) (fun _ => ?_) (fun c9 => absurd (by decide) c9)
  exact gx_vret (w' := [(h0, .inr (9, [v0, v1, v2, v3, v4, v5, v6, v7, v8, v9, v10, v11, v12, v13, v14, v15, v16, v17, v18, v19, v20, v21, v22, v23, v24, v25, v26, .ref a0, .int (nI (n + 4)), v29, v30, v31, v32, v33, v34, v35, v36, v37, v38, v39, v40, v41, v42, v43, v44, v45, v46, v47, v48, v49, v50, v51])), (a0, .inl (cB, 4000, .inl (upd (upd (upd (upd f n (vp_nar .byte ((((w).toUInt32 >>> ((24 : Int32).toUInt32 &&& Int32.toUInt32 31)).toInt32).toInt8.toInt32))) (n + 1) (vp_nar .byte ((((w).toUInt32 >>> ((16 : Int32).toUInt32 &&& Int32.toUInt32 31)).toInt32).toInt8.toInt32))) ((n + 1) + 1) (vp_nar .byte ((((w).toUInt32 >>> ((8 : Int32).toUInt32 &&& Int32.toUInt32 31)).toInt32).toInt8.toInt32))) (((n + 1) + 1) + 1) (vp_nar .byte ((((w).toUInt32 >>> ((0 : Int32).toUInt32 &&& Int32.toUInt32 31)).toInt32).toInt8.toInt32)))))]) hx hb hr hlk hK hP hD hS (Nat.le_of_ble_eq_true rfl) (Nat.le_of_ble_eq_true rfl) dX9_byteRow_38 ⟨(upd (upd (upd (upd f n (vp_nar .byte ((((w).toUInt32 >>> ((24 : Int32).toUInt32 &&& Int32.toUInt32 31)).toInt32).toInt8.toInt32))) (n + 1) (vp_nar .byte ((((w).toUInt32 >>> ((16 : Int32).toUInt32 &&& Int32.toUInt32 31)).toInt32).toInt8.toInt32))) ((n + 1) + 1) (vp_nar .byte ((((w).toUInt32 >>> ((8 : Int32).toUInt32 &&& Int32.toUInt32 31)).toInt32).toInt8.toInt32))) (((n + 1) + 1) + 1) (vp_nar .byte ((((w).toUInt32 >>> ((0 : Int32).toUInt32 &&& Int32.toUInt32 31)).toInt32).toInt8.toInt32))), (rFd_9 f n w), rfl⟩
def wsP_x_X9_feed : List Cond := .code yX9_feed cX9_feed 6 (some .int) :: (([.fieldLink RX9 116 "LitmusHallModel" "taped" "I", .methodLink RX9 119 yX9_byteRow, .instanceMethod yX9_byteRow, .selects RX9 yX9_byteRow yX9_byteRow, .initialized RX9] ++ wsX90) ++ (wsP_x_X9_byteRow ++ []))
set_option maxRecDepth 20000 in
theorem gP_x_X9_feed__x_X9_byteRow : GoodIn wsP_x_X9_feed (wsV RX9 119 RX9 yX9_byteRow wsP_x_X9_byteRow) := gw_in (pre := [.methodLink RX9 119 yX9_byteRow, .instanceMethod yX9_byteRow, .selects RX9 yX9_byteRow yX9_byteRow, .initialized RX9]) (by decide +kernel) (fun _ h => List.mem_cons_of_mem _ (List.mem_append_right _ (List.mem_append_left _ h))) gW_x_X9_byteRow
set_option maxHeartbeats 4000000 in
set_option maxRecDepth 100000 in
theorem x_X9_feed (l : Launch) (D : va_G) (cI cB cZ : ClassId) (h0 : Nat) (a0 : Nat) (v0 : Value) (v1 : Value) (v2 : Value) (v3 : Value) (v4 : Value) (v5 : Value) (v6 : Value) (v7 : Value) (v8 : Value) (v9 : Value) (v10 : Value) (v11 : Value) (v12 : Value) (v13 : Value) (v14 : Value) (v15 : Value) (v16 : Value) (v17 : Value) (v18 : Value) (v19 : Value) (v20 : Value) (v21 : Value) (v22 : Value) (v23 : Value) (v24 : Value) (v25 : Value) (v26 : Value) (v29 : Value) (v30 : Value) (v31 : Value) (v32 : Value) (v33 : Value) (v34 : Value) (v35 : Value) (v36 : Value) (v37 : Value) (v38 : Value) (v39 : Value) (v40 : Value) (v41 : Value) (v42 : Value) (v43 : Value) (v44 : Value) (v45 : Value) (v46 : Value) (v47 : Value) (v48 : Value) (v49 : Value) (v50 : Value) (v51 : Value) (f : Nat → Int32) (n : Nat) (w1 : Int32) (w2 : Int32) (w3 : Int32) (w4 : Int32) (w5 : Int32) (hn : n ≤ 4000) : gMi l yX9_feed wsP_x_X9_feed ({ frames := 1, cells := 0, slots := 0, locals := 22 }) D cI cB cZ [] [.ref h0, .int w1, .int w2, .int w3, .int w4, .int w5] [(h0, .inr (9, [v0, v1, v2, v3, v4, v5, v6, v7, v8, v9, v10, v11, v12, v13, v14, v15, v16, v17, v18, v19, v20, v21, v22, v23, v24, v25, v26, .ref a0, .int (nI n), v29, v30, v31, v32, v33, v34, v35, v36, v37, v38, v39, v40, v41, v42, v43, v44, v45, v46, v47, v48, v49, v50, v51])), (a0, .inl (cB, 4000, .inl f))] (fun r9 w9 => ∃ g : Nat → Int32, ∃ z : Int32, ∃ m9 : Nat, ((3980 < n ∧ z = (-1) ∧ m9 = n ∧ g = f) ∨ (n ≤ 3980 ∧ z = nI (n + 20) ∧ m9 = n + 20 ∧ g = rF5 f n w1 w2 w3 w4 w5)) ∧ r9 = z ∧ w9 = [(h0, .inr (9, [v0, v1, v2, v3, v4, v5, v6, v7, v8, v9, v10, v11, v12, v13, v14, v15, v16, v17, v18, v19, v20, v21, v22, v23, v24, v25, v26, .ref a0, .int (nI m9), v29, v30, v31, v32, v33, v34, v35, v36, v37, v38, v39, v40, v41, v42, v43, v44, v45, v46, v47, v48, v49, v50, v51])), (a0, .inl (cB, 4000, .inl g))]) := by
  refine gMi.of (cc := cX9_feed) (maxL := 6) (ret := (some .int)) (by decide) rfl (Nat.le_of_ble_eq_true rfl) (fun p e s m below meth c A ls hx hb hr hlk hml hts hown hin hA hP hK hD hS hN hl => ?_)
  have hown : s.vm.findClass RX9 = some m.cls := hown
  have hl : lv_has ls 6 [(0, .ref h0), (1, .int w1), (2, .int w2), (3, .int w3), (4, .int w4), (5, .int w5)] := hl
  refine lv_aload_n hx hb dX9_feed_0 rfl (lv_at hl 0 rfl) ?_
  refine va_get (D := D) (ci := 9) (v := .int (nI n)) (C := RX9) (T := TX9) (N := 52) hx hb hts (fun _ h => List.mem_cons_of_mem _ (List.mem_append_left _ (List.mem_append_right _ h))) hown hK hP 0 rfl rfl 28 (by decide) (hts (.fieldLink RX9 116 "LitmusHallModel" "taped" "I") (by decide +kernel)) (fun _ h9 => h9) rfl dX9_feed_1 ?_
  refine lv_bipush (v := 20) hx hb dX9_feed_4 (by decide) ?_
  refine lv_iadd hx hb dX9_feed_6 ?_
  refine gx_top (y := nI (n + 20)) (nI_add n 20) ?_
  refine lv_sipush (v := 4000) hx hb dX9_feed_7 (by decide) ?_
  refine gy_le (a := (n + 20)) (b := 4000) (tgt := 15) hx hb (by omega) (by omega) dX9_feed_10 (by decide) (fun c_1 => ?_) (fun c_1 => ?_)
  · refine lv_aload_n hx hb dX9_feed_15 rfl (lv_at hl 0 rfl) ?_
    refine lv_iload_n hx hb dX9_feed_16 rfl (lv_at hl 1 rfl) ?_
    refine gx_gov (wc := [(h0, .inr (9, [v0, v1, v2, v3, v4, v5, v6, v7, v8, v9, v10, v11, v12, v13, v14, v15, v16, v17, v18, v19, v20, v21, v22, v23, v24, v25, v26, .ref a0, .int (nI n), v29, v30, v31, v32, v33, v34, v35, v36, v37, v38, v39, v40, v41, v42, v43, v44, v45, v46, v47, v48, v49, v50, v51])), (a0, .inl (cB, 4000, .inl f))]) (wr := []) (va_runV (As := [.int w1]) (rest := []) ⟨hx, hb, hml, hown, hts⟩ (x_X9_byteRow l D cI cB cZ h0 a0 (v0) (v1) (v2) (v3) (v4) (v5) (v6) (v7) (v8) (v9) (v10) (v11) (v12) (v13) (v14) (v15) (v16) (v17) (v18) (v19) (v20) (v21) (v22) (v23) (v24) (v25) (v26) (v29) (v30) (v31) (v32) (v33) (v34) (v35) (v36) (v37) (v38) (v39) (v40) (v41) (v42) (v43) (v44) (v45) (v46) (v47) (v48) (v49) (v50) (v51) f n w1 (by omega) _) (cwV 1 hts gP_x_X9_feed__x_X9_byteRow rfl rfl rfl (by decide +kernel) ⟨Nat.le_of_ble_eq_true rfl, Nat.le_of_ble_eq_true rfl⟩) (gx_preV (ci := 9) (q0 := 0) hK gN.nil hP hD [0, 1] rfl rfl rfl rfl) rfl rfl hl.1 rfl (lv_room (Nat.le_of_ble_eq_true rfl)) dX9_feed_17 ⟨Nat.le_of_ble_eq_true rfl, Nat.le_of_ble_eq_true rfl⟩) hP hD hS hA [0, 1] [] rfl rfl rfl (by decide) (fun w1 H locs hp hP hD hS => ?_)
    obtain ⟨e_2, hx17_0, rfl⟩ := hp
    have hx17_0 : e_2 = rFd f n w1 := hx17_0
    refine lv_aload_n hx hb dX9_feed_20 rfl (lv_at hl 0 rfl) ?_
    refine lv_iload_n hx hb dX9_feed_21 rfl (lv_at hl 2 rfl) ?_
    refine gx_gov (wc := [(h0, .inr (9, [v0, v1, v2, v3, v4, v5, v6, v7, v8, v9, v10, v11, v12, v13, v14, v15, v16, v17, v18, v19, v20, v21, v22, v23, v24, v25, v26, .ref a0, .int (nI (n + 4)), v29, v30, v31, v32, v33, v34, v35, v36, v37, v38, v39, v40, v41, v42, v43, v44, v45, v46, v47, v48, v49, v50, v51])), (a0, .inl (cB, 4000, .inl e_2))]) (wr := []) (va_runV (As := [.int w2]) (rest := []) ⟨hx, hb, hml, hown, hts⟩ (x_X9_byteRow l D cI cB cZ h0 a0 (v0) (v1) (v2) (v3) (v4) (v5) (v6) (v7) (v8) (v9) (v10) (v11) (v12) (v13) (v14) (v15) (v16) (v17) (v18) (v19) (v20) (v21) (v22) (v23) (v24) (v25) (v26) (v29) (v30) (v31) (v32) (v33) (v34) (v35) (v36) (v37) (v38) (v39) (v40) (v41) (v42) (v43) (v44) (v45) (v46) (v47) (v48) (v49) (v50) (v51) e_2 (n + 4) w2 (by omega) _) (cwV 1 hts gP_x_X9_feed__x_X9_byteRow rfl rfl rfl (by decide +kernel) ⟨Nat.le_of_ble_eq_true rfl, Nat.le_of_ble_eq_true rfl⟩) (gx_preV (ci := 9) (q0 := 0) hK gN.nil hP hD [0, 1] rfl rfl rfl rfl) rfl rfl hl.1 rfl (lv_room (Nat.le_of_ble_eq_true rfl)) dX9_feed_22 ⟨Nat.le_of_ble_eq_true rfl, Nat.le_of_ble_eq_true rfl⟩) hP hD hS hA [0, 1] [] rfl rfl rfl (by decide) (fun w1 H locs hp hP hD hS => ?_)
    obtain ⟨e_3, hx22_0, rfl⟩ := hp
    have hx22_0 : e_3 = rFd e_2 (n + 4) w2 := hx22_0
    refine lv_aload_n hx hb dX9_feed_25 rfl (lv_at hl 0 rfl) ?_
    refine lv_iload_n hx hb dX9_feed_26 rfl (lv_at hl 3 rfl) ?_
    refine gx_gov (wc := [(h0, .inr (9, [v0, v1, v2, v3, v4, v5, v6, v7, v8, v9, v10, v11, v12, v13, v14, v15, v16, v17, v18, v19, v20, v21, v22, v23, v24, v25, v26, .ref a0, .int (nI ((n + 4) + 4)), v29, v30, v31, v32, v33, v34, v35, v36, v37, v38, v39, v40, v41, v42, v43, v44, v45, v46, v47, v48, v49, v50, v51])), (a0, .inl (cB, 4000, .inl e_3))]) (wr := []) (va_runV (As := [.int w3]) (rest := []) ⟨hx, hb, hml, hown, hts⟩ (x_X9_byteRow l D cI cB cZ h0 a0 (v0) (v1) (v2) (v3) (v4) (v5) (v6) (v7) (v8) (v9) (v10) (v11) (v12) (v13) (v14) (v15) (v16) (v17) (v18) (v19) (v20) (v21) (v22) (v23) (v24) (v25) (v26) (v29) (v30) (v31) (v32) (v33) (v34) (v35) (v36) (v37) (v38) (v39) (v40) (v41) (v42) (v43) (v44) (v45) (v46) (v47) (v48) (v49) (v50) (v51) e_3 ((n + 4) + 4) w3 (by omega) _) (cwV 1 hts gP_x_X9_feed__x_X9_byteRow rfl rfl rfl (by decide +kernel) ⟨Nat.le_of_ble_eq_true rfl, Nat.le_of_ble_eq_true rfl⟩) (gx_preV (ci := 9) (q0 := 0) hK gN.nil hP hD [0, 1] rfl rfl rfl rfl) rfl rfl hl.1 rfl (lv_room (Nat.le_of_ble_eq_true rfl)) dX9_feed_27 ⟨Nat.le_of_ble_eq_true rfl, Nat.le_of_ble_eq_true rfl⟩) hP hD hS hA [0, 1] [] rfl rfl rfl (by decide) (fun w1 H locs hp hP hD hS => ?_)
    obtain ⟨e_4, hx27_0, rfl⟩ := hp
    have hx27_0 : e_4 = rFd e_3 ((n + 4) + 4) w3 := hx27_0
    refine lv_aload_n hx hb dX9_feed_30 rfl (lv_at hl 0 rfl) ?_
    refine lv_iload hx hb dX9_feed_31 (lv_at hl 4 rfl) ?_
    refine gx_gov (wc := [(h0, .inr (9, [v0, v1, v2, v3, v4, v5, v6, v7, v8, v9, v10, v11, v12, v13, v14, v15, v16, v17, v18, v19, v20, v21, v22, v23, v24, v25, v26, .ref a0, .int (nI (((n + 4) + 4) + 4)), v29, v30, v31, v32, v33, v34, v35, v36, v37, v38, v39, v40, v41, v42, v43, v44, v45, v46, v47, v48, v49, v50, v51])), (a0, .inl (cB, 4000, .inl e_4))]) (wr := []) (va_runV (As := [.int w4]) (rest := []) ⟨hx, hb, hml, hown, hts⟩ (x_X9_byteRow l D cI cB cZ h0 a0 (v0) (v1) (v2) (v3) (v4) (v5) (v6) (v7) (v8) (v9) (v10) (v11) (v12) (v13) (v14) (v15) (v16) (v17) (v18) (v19) (v20) (v21) (v22) (v23) (v24) (v25) (v26) (v29) (v30) (v31) (v32) (v33) (v34) (v35) (v36) (v37) (v38) (v39) (v40) (v41) (v42) (v43) (v44) (v45) (v46) (v47) (v48) (v49) (v50) (v51) e_4 (((n + 4) + 4) + 4) w4 (by omega) _) (cwV 1 hts gP_x_X9_feed__x_X9_byteRow rfl rfl rfl (by decide +kernel) ⟨Nat.le_of_ble_eq_true rfl, Nat.le_of_ble_eq_true rfl⟩) (gx_preV (ci := 9) (q0 := 0) hK gN.nil hP hD [0, 1] rfl rfl rfl rfl) rfl rfl hl.1 rfl (lv_room (Nat.le_of_ble_eq_true rfl)) dX9_feed_33 ⟨Nat.le_of_ble_eq_true rfl, Nat.le_of_ble_eq_true rfl⟩) hP hD hS hA [0, 1] [] rfl rfl rfl (by decide) (fun w1 H locs hp hP hD hS => ?_)
    obtain ⟨e_5, hx33_0, rfl⟩ := hp
    have hx33_0 : e_5 = rFd e_4 (((n + 4) + 4) + 4) w4 := hx33_0
    refine lv_aload_n hx hb dX9_feed_36 rfl (lv_at hl 0 rfl) ?_
    refine lv_iload hx hb dX9_feed_37 (lv_at hl 5 rfl) ?_
    refine gx_gov (wc := [(h0, .inr (9, [v0, v1, v2, v3, v4, v5, v6, v7, v8, v9, v10, v11, v12, v13, v14, v15, v16, v17, v18, v19, v20, v21, v22, v23, v24, v25, v26, .ref a0, .int (nI ((((n + 4) + 4) + 4) + 4)), v29, v30, v31, v32, v33, v34, v35, v36, v37, v38, v39, v40, v41, v42, v43, v44, v45, v46, v47, v48, v49, v50, v51])), (a0, .inl (cB, 4000, .inl e_5))]) (wr := []) (va_runV (As := [.int w5]) (rest := []) ⟨hx, hb, hml, hown, hts⟩ (x_X9_byteRow l D cI cB cZ h0 a0 (v0) (v1) (v2) (v3) (v4) (v5) (v6) (v7) (v8) (v9) (v10) (v11) (v12) (v13) (v14) (v15) (v16) (v17) (v18) (v19) (v20) (v21) (v22) (v23) (v24) (v25) (v26) (v29) (v30) (v31) (v32) (v33) (v34) (v35) (v36) (v37) (v38) (v39) (v40) (v41) (v42) (v43) (v44) (v45) (v46) (v47) (v48) (v49) (v50) (v51) e_5 ((((n + 4) + 4) + 4) + 4) w5 (by omega) _) (cwV 1 hts gP_x_X9_feed__x_X9_byteRow rfl rfl rfl (by decide +kernel) ⟨Nat.le_of_ble_eq_true rfl, Nat.le_of_ble_eq_true rfl⟩) (gx_preV (ci := 9) (q0 := 0) hK gN.nil hP hD [0, 1] rfl rfl rfl rfl) rfl rfl hl.1 rfl (lv_room (Nat.le_of_ble_eq_true rfl)) dX9_feed_39 ⟨Nat.le_of_ble_eq_true rfl, Nat.le_of_ble_eq_true rfl⟩) hP hD hS hA [0, 1] [] rfl rfl rfl (by decide) (fun w1 H locs hp hP hD hS => ?_)
    obtain ⟨e_6, hx39_0, rfl⟩ := hp
    have hx39_0 : e_6 = rFd e_5 ((((n + 4) + 4) + 4) + 4) w5 := hx39_0
    refine lv_aload_n hx hb dX9_feed_42 rfl (lv_at hl 0 rfl) ?_
    refine va_get (D := D) (ci := 9) (v := .int (nI (((((n + 4) + 4) + 4) + 4) + 4))) (C := RX9) (T := TX9) (N := 52) hx hb hts (fun _ h => List.mem_cons_of_mem _ (List.mem_append_left _ (List.mem_append_right _ h))) hown hK hP 0 rfl rfl 28 (by decide) (hts (.fieldLink RX9 116 "LitmusHallModel" "taped" "I") (by decide +kernel)) (fun _ h9 => h9) rfl dX9_feed_43 ?_
    have hP : va_P D vwCl [(h0, .inr (9, [v0, v1, v2, v3, v4, v5, v6, v7, v8, v9, v10, v11, v12, v13, v14, v15, v16, v17, v18, v19, v20, v21, v22, v23, v24, v25, v26, .ref a0, .int (nI (((((n + 4) + 4) + 4) + 4) + 4)), v29, v30, v31, v32, v33, v34, v35, v36, v37, v38, v39, v40, v41, v42, v43, v44, v45, v46, v47, v48, v49, v50, v51])), (a0, .inl (cB, 4000, .inl e_6))] H := hP
    have hD : va_D A [(h0, .inr (9, [v0, v1, v2, v3, v4, v5, v6, v7, v8, v9, v10, v11, v12, v13, v14, v15, v16, v17, v18, v19, v20, v21, v22, v23, v24, v25, v26, .ref a0, .int (nI (((((n + 4) + 4) + 4) + 4) + 4)), v29, v30, v31, v32, v33, v34, v35, v36, v37, v38, v39, v40, v41, v42, v43, v44, v45, v46, v47, v48, v49, v50, v51])), (a0, .inl (cB, 4000, .inl e_6))] := hD
    exact gx_iret (w' := [(h0, .inr (9, [v0, v1, v2, v3, v4, v5, v6, v7, v8, v9, v10, v11, v12, v13, v14, v15, v16, v17, v18, v19, v20, v21, v22, v23, v24, v25, v26, .ref a0, .int (nI (((((n + 4) + 4) + 4) + 4) + 4)), v29, v30, v31, v32, v33, v34, v35, v36, v37, v38, v39, v40, v41, v42, v43, v44, v45, v46, v47, v48, v49, v50, v51])), (a0, .inl (cB, 4000, .inl e_6))]) hx hb hr hlk hK hP hD hS (Nat.le_of_ble_eq_true rfl) (Nat.le_of_ble_eq_true rfl) dX9_feed_46 ⟨e_6, (nI (((((n + 4) + 4) + 4) + 4) + 4)), (((((n + 4) + 4) + 4) + 4) + 4), (Or.inr ⟨by omega, rfl, rfl, rF5_c hx17_0 hx22_0 hx27_0 hx33_0 hx39_0 rfl rfl rfl rfl⟩), rfl, rfl⟩
  · refine lv_iconst (v := (-1)) hx hb dX9_feed_13 (by decide) ?_
    exact gx_iret (w' := [(h0, .inr (9, [v0, v1, v2, v3, v4, v5, v6, v7, v8, v9, v10, v11, v12, v13, v14, v15, v16, v17, v18, v19, v20, v21, v22, v23, v24, v25, v26, .ref a0, .int (nI n), v29, v30, v31, v32, v33, v34, v35, v36, v37, v38, v39, v40, v41, v42, v43, v44, v45, v46, v47, v48, v49, v50, v51])), (a0, .inl (cB, 4000, .inl f))]) hx hb hr hlk hK hP hD hS (Nat.le_of_ble_eq_true rfl) (Nat.le_of_ble_eq_true rfl) dX9_feed_14 ⟨f, (-1), n, (Or.inl ⟨by omega, rfl, rfl, rfl⟩), rfl, rfl⟩
