theorem dX7_hasEnded_0 : decode cX7_hasEnded 0 = .ok (.iconst 0, 1) := by decide +kernel
theorem dX7_hasEnded_1 : decode cX7_hasEnded 1 = .ok (.istore_n 2, 1) := by decide +kernel
theorem dX7_hasEnded_10 : decode cX7_hasEnded 10 = .ok (.aload_n 0, 1) := by decide +kernel
theorem dX7_hasEnded_11 : decode cX7_hasEnded 11 = .ok (.getfield 11, 3) := by decide +kernel
theorem dX7_hasEnded_14 : decode cX7_hasEnded 14 = .ok (.bipush 13, 2) := by decide +kernel
theorem dX7_hasEnded_16 : decode cX7_hasEnded 16 = .ok (.iload_n 2, 1) := by decide +kernel
theorem dX7_hasEnded_17 : decode cX7_hasEnded 17 = .ok (.iadd, 1) := by decide +kernel
theorem dX7_hasEnded_18 : decode cX7_hasEnded 18 = .ok (.iaload, 1) := by decide +kernel
theorem dX7_hasEnded_19 : decode cX7_hasEnded 19 = .ok (.bipush 127, 2) := by decide +kernel
theorem dX7_hasEnded_2 : decode cX7_hasEnded 2 = .ok (.iload_n 2, 1) := by decide +kernel
theorem dX7_hasEnded_21 : decode cX7_hasEnded 21 = .ok (.iand, 1) := by decide +kernel
theorem dX7_hasEnded_22 : decode cX7_hasEnded 22 = .ok (.aload_n 1, 1) := by decide +kernel
theorem dX7_hasEnded_23 : decode cX7_hasEnded 23 = .ok (.getfield 36, 3) := by decide +kernel
theorem dX7_hasEnded_26 : decode cX7_hasEnded 26 = .ok (.iload_n 2, 1) := by decide +kernel
theorem dX7_hasEnded_27 : decode cX7_hasEnded 27 = .ok (.iaload, 1) := by decide +kernel
theorem dX7_hasEnded_28 : decode cX7_hasEnded 28 = .ok (.if_icmp .eq 5, 3) := by decide +kernel
theorem dX7_hasEnded_3 : decode cX7_hasEnded 3 = .ok (.aload_n 1, 1) := by decide +kernel
theorem dX7_hasEnded_31 : decode cX7_hasEnded 31 = .ok (.iconst 0, 1) := by decide +kernel
theorem dX7_hasEnded_32 : decode cX7_hasEnded 32 = .ok (.ireturn, 1) := by decide +kernel
theorem dX7_hasEnded_33 : decode cX7_hasEnded 33 = .ok (.iinc 2 1, 3) := by decide +kernel
theorem dX7_hasEnded_36 : decode cX7_hasEnded 36 = .ok (.goto (-34), 3) := by decide +kernel
theorem dX7_hasEnded_39 : decode cX7_hasEnded 39 = .ok (.iconst 1, 1) := by decide +kernel
theorem dX7_hasEnded_4 : decode cX7_hasEnded 4 = .ok (.getfield 15, 3) := by decide +kernel
theorem dX7_hasEnded_40 : decode cX7_hasEnded 40 = .ok (.ireturn, 1) := by decide +kernel
theorem dX7_hasEnded_7 : decode cX7_hasEnded 7 = .ok (.if_icmp .ge 32, 3) := by decide +kernel
theorem dX7_widthOf_0 : decode cX7_widthOf 0 = .ok (.iload_n 1, 1) := by decide +kernel
theorem dX7_widthOf_1 : decode cX7_widthOf 1 = .ok (.iconst 1, 1) := by decide +kernel
theorem dX7_widthOf_11 : decode cX7_widthOf 11 = .ok (.bipush 6, 2) := by decide +kernel
theorem dX7_widthOf_13 : decode cX7_widthOf 13 = .ok (.imul, 1) := by decide +kernel
theorem dX7_widthOf_14 : decode cX7_widthOf 14 = .ok (.iadd, 1) := by decide +kernel
theorem dX7_widthOf_15 : decode cX7_widthOf 15 = .ok (.goto 5, 3) := by decide +kernel
theorem dX7_widthOf_18 : decode cX7_widthOf 18 = .ok (.bipush 16, 2) := by decide +kernel
theorem dX7_widthOf_2 : decode cX7_widthOf 2 = .ok (.if_icmp .ne 16, 3) := by decide +kernel
theorem dX7_widthOf_20 : decode cX7_widthOf 20 = .ok (.ireturn, 1) := by decide +kernel
theorem dX7_widthOf_5 : decode cX7_widthOf 5 = .ok (.bipush 16, 2) := by decide +kernel
theorem dX7_widthOf_7 : decode cX7_widthOf 7 = .ok (.aload_n 0, 1) := by decide +kernel
theorem dX7_widthOf_8 : decode cX7_widthOf 8 = .ok (.getfield 15, 3) := by decide +kernel
def wsP_c_widthOf : List Cond := .code yX7_widthOf cX7_widthOf 2 (some .int) :: ([.fieldLink RX7 15 "LitmusHall$Program" "cores" "I"] ++ wsX40)
set_option maxHeartbeats 4000000 in
set_option maxRecDepth 100000 in
theorem c_widthOf (l : Launch) (D : va_G) (cI cB cZ : ClassId) (p0 : Nat) (v1 : Value) (v2 : Value) (v3 : Value) (nc : Nat) (mode : Int32)  : gMi l yX7_widthOf wsP_c_widthOf ({ frames := 0, cells := 0, slots := 0, locals := 0 }) D cI cB cZ [] [.ref p0, .int mode] [(p0, .inr (4, [.int (nI nc), v1, v2, v3]))] (fun r9 w9 => ∃ w : Nat, ((mode = 1 ∧ w = 16 + (nc * 6)) ∨ (¬ mode = 1 ∧ w = 16)) ∧ r9 = (nI w) ∧ w9 = [(p0, .inr (4, [.int (nI nc), v1, v2, v3]))]) := by
  refine gMi.of (cc := cX7_widthOf) (maxL := 2) (ret := (some .int)) (by decide) rfl (Nat.le_of_ble_eq_true rfl) (fun p e s m below meth c A ls hx hb hr hlk hml hts hown hin hA hP hK hD hS hN hl => ?_)
  have hown : s.vm.findClass RX7 = some m.cls := hown
  have hl : lv_has ls 2 [(0, .ref p0), (1, .int mode)] := hl
  refine lv_iload_n hx hb dX7_widthOf_0 rfl (lv_at hl 1 rfl) ?_
  refine lv_iconst (v := 1) hx hb dX7_widthOf_1 (by decide) ?_
  refine lv_icmp_ne (tgt := 18) hx hb dX7_widthOf_2 (by decide) (fun c_1 => ?_) (fun c_1 => ?_)
  · refine lv_bipush (v := 16) hx hb dX7_widthOf_18 (by decide) ?_
    exact gx_iret (w' := [(p0, .inr (4, [.int (nI nc), v1, v2, v3]))]) hx hb hr hlk hK hP hD hS (Nat.le_of_ble_eq_true rfl) (Nat.le_of_ble_eq_true rfl) dX7_widthOf_20 ⟨16, (by first | exact Or.inl ⟨c_1, rfl⟩ | exact Or.inr ⟨c_1, rfl⟩), rfl, rfl⟩
  · refine lv_bipush (v := 16) hx hb dX7_widthOf_5 (by decide) ?_
    refine lv_aload_n hx hb dX7_widthOf_7 rfl (lv_at hl 0 rfl) ?_
    refine va_get (D := D) (ci := 4) (v := .int (nI nc)) (C := RX4) (T := TX4) (N := 4) hx hb hts (fun _ h => List.mem_cons_of_mem _ (List.mem_append_right _ h)) hown hK hP 0 rfl rfl 0 (by decide) (hts (.fieldLink RX7 15 "LitmusHall$Program" "cores" "I") (by decide +kernel)) (fun _ h9 => h9) rfl dX7_widthOf_8 ?_
    refine lv_bipush (v := 6) hx hb dX7_widthOf_11 (by decide) ?_
    refine lv_imul hx hb dX7_widthOf_13 ?_
    refine gx_top (y := nI (nc * 6)) (pk_mul nc 6) ?_
    refine lv_iadd hx hb dX7_widthOf_14 ?_
    refine gx_top (y := nI (16 + (nc * 6))) (nI_add 16 (nc * 6)) ?_
    refine lv_goto (tgt := 20) hx hb dX7_widthOf_15 (by decide) ?_
    exact gx_iret (w' := [(p0, .inr (4, [.int (nI nc), v1, v2, v3]))]) hx hb hr hlk hK hP hD hS (Nat.le_of_ble_eq_true rfl) (Nat.le_of_ble_eq_true rfl) dX7_widthOf_20 ⟨(16 + (nc * 6)), (by first | exact Or.inl ⟨c_1, rfl⟩ | exact Or.inr ⟨c_1, rfl⟩), rfl, rfl⟩
def wsP_c_hasEnded : List Cond := .code yX7_hasEnded cX7_hasEnded 3 (some .boolean) :: ([.fieldLink RX7 15 "LitmusHall$Program" "cores" "I", .fieldLink RX7 11 "LitmusHall$State" "words" "[I", .fieldLink RX7 36 "LitmusHall$Program" "lengths" "[I"] ++ wsX40 ++ wsX70)
set_option maxHeartbeats 4000000 in
set_option maxRecDepth 100000 in
theorem c_hasEnded (l : Launch) (D : va_G) (cI cB cZ : ClassId) (h0 : Nat) (a1 : Nat) (f : Nat → Int32) (p0 : Nat) (b1 : Nat) (v2 : Value) (v3 : Value) (nc : Nat) (L : Nat → Nat) (hc : nc ≤ 3) (hL : ∀ k, k < 3 → L k ≤ 8) : gMi l yX7_hasEnded wsP_c_hasEnded ({ frames := 0, cells := 0, slots := 0, locals := 0 }) D cI cB cZ [] [.ref h0, .ref p0] [(h0, .inr (7, [.ref a1])), (a1, .inl (cI, 34, .inl f)), (p0, .inr (4, [.int (nI nc), .ref b1, v2, v3])), (b1, .inl (cI, 3, .inl (fun j => nI (L j))))] (fun r9 w9 => ∃ z : Int32, (z = 0 ∨ z = 1) ∧ r9 = z ∧ w9 = [(h0, .inr (7, [.ref a1])), (a1, .inl (cI, 34, .inl f)), (p0, .inr (4, [.int (nI nc), .ref b1, v2, v3])), (b1, .inl (cI, 3, .inl (fun j => nI (L j))))]) := by
  refine gMi.of (cc := cX7_hasEnded) (maxL := 3) (ret := (some .boolean)) (by decide) rfl (Nat.le_of_ble_eq_true rfl) (fun p e s m below meth c A ls hx hb hr hlk hml hts hown hin hA hP hK hD hS hN hl => ?_)
  have hown : s.vm.findClass RX7 = some m.cls := hown
  have hl : lv_has ls 3 [(0, .ref h0), (1, .ref p0)] := hl
  refine lv_iconst (v := 0) hx hb dX7_hasEnded_0 (by decide) ?_
  refine lv_istore_n (lv' := [(2, .int 0), (0, .ref h0), (1, .ref p0)]) hx hb dX7_hasEnded_1 rfl hl (by decide) rfl (fun ls hl => ?_)
  refine gy_loop0 (I := fun (x9 : Nat) H locs ls => (x9 ≤ nc) ∧ va_P D vwCl [(h0, .inr (7, [.ref a1])), (a1, .inl (cI, 34, .inl f)), (p0, .inr (4, [.int (nI nc), .ref b1, v2, v3])), (b1, .inl (cI, 3, .inl (fun j => nI (L j))))] H ∧ va_D A [(h0, .inr (7, [.ref a1])), (a1, .inl (cI, 34, .inl f)), (p0, .inr (4, [.int (nI nc), .ref b1, v2, v3])), (b1, .inl (cI, 3, .inl (fun j => nI (L j))))] ∧ va_S A s.heap H locs ∧ lv_has ls 3 [(2, .int (nI x9)), (0, .ref h0), (1, .ref p0)]) (μ := fun (x9 : Nat) => nc - x9) (fun x9 H locs ls hI ih2 => ?_) 0 ⟨(by omega), hP, hD, hS, lv_sub hl [0, 1, 2] rfl⟩
  obtain ⟨k, rfl⟩ : ∃ z9, z9 = x9 := ⟨_, rfl⟩
  obtain ⟨hi2_0, hP, hD, hS, hl⟩ := hI
  have hi2_0 : k ≤ nc := hi2_0
  have hP : va_P D vwCl [(h0, .inr (7, [.ref a1])), (a1, .inl (cI, 34, .inl f)), (p0, .inr (4, [.int (nI nc), .ref b1, v2, v3])), (b1, .inl (cI, 3, .inl (fun j => nI (L j))))] H := hP
  have hD : va_D A [(h0, .inr (7, [.ref a1])), (a1, .inl (cI, 34, .inl f)), (p0, .inr (4, [.int (nI nc), .ref b1, v2, v3])), (b1, .inl (cI, 3, .inl (fun j => nI (L j))))] := hD
  have hS : va_S A s.heap H locs := hS
  have hl : lv_has ls 3 [(2, .int (nI k)), (0, .ref h0), (1, .ref p0)] := hl
  refine lv_iload_n hx hb dX7_hasEnded_2 rfl (lv_at hl 0 rfl) ?_
  refine lv_aload_n hx hb dX7_hasEnded_3 rfl (lv_at hl 2 rfl) ?_
  refine va_get (D := D) (ci := 4) (v := .int (nI nc)) (C := RX4) (T := TX4) (N := 4) hx hb hts (fun _ h => List.mem_cons_of_mem _ (List.mem_append_left _ (List.mem_append_right _ h))) hown hK hP 2 rfl rfl 0 (by decide) (hts (.fieldLink RX7 15 "LitmusHall$Program" "cores" "I") (by decide +kernel)) (fun _ h9 => h9) rfl dX7_hasEnded_4 ?_
  refine gy_ge (a := k) (b := nc) (tgt := 39) hx hb (by omega) (by omega) dX7_hasEnded_7 (by decide) (fun c_1 => ?_) (fun c_1 => ?_)
  · refine lv_iconst (v := 1) hx hb dX7_hasEnded_39 (by decide) ?_
    exact gx_zret (w' := [(h0, .inr (7, [.ref a1])), (a1, .inl (cI, 34, .inl f)), (p0, .inr (4, [.int (nI nc), .ref b1, v2, v3])), (b1, .inl (cI, 3, .inl (fun j => nI (L j))))]) hx hb hr hlk hK hP hD hS (Nat.le_of_ble_eq_true rfl) (Nat.le_of_ble_eq_true rfl) dX7_hasEnded_40 rfl ⟨1, (by decide), rfl, rfl⟩
  · refine lv_aload_n hx hb dX7_hasEnded_10 rfl (lv_at hl 1 rfl) ?_
    refine va_get (D := D) (ci := 7) (v := .ref a1) (C := RX7) (T := TX7) (N := 1) hx hb hts (fun _ h => List.mem_cons_of_mem _ (List.mem_append_right _ h)) hown hK hP 0 rfl rfl 0 (by decide) (hts (.fieldLink RX7 11 "LitmusHall$State" "words" "[I") (by decide +kernel)) (fun _ h9 => h9) rfl dX7_hasEnded_11 ?_
    refine lv_bipush (v := 13) hx hb dX7_hasEnded_14 (by decide) ?_
    refine lv_iload_n hx hb dX7_hasEnded_16 rfl (lv_at hl 0 rfl) ?_
    refine lv_iadd hx hb dX7_hasEnded_17 ?_
    refine gx_top (y := nI (13 + k)) (nI_add 13 k) ?_
    refine gy_ild (i := (13 + k)) hx hb hK hP 1 rfl (by omega) (by omega) dX7_hasEnded_18 ?_
    refine lv_bipush (v := 127) hx hb dX7_hasEnded_19 (by decide) ?_
    refine lv_iand hx hb dX7_hasEnded_21 ?_
    refine gx_top (pk_and (f (13 + k)) (m := 127) 7 (by decide +kernel)) ?_
    have hj2 : (f (13 + k)).toBitVec.toNat % 128 < 128 := Nat.mod_lt _ (by decide)
    refine lv_aload_n hx hb dX7_hasEnded_22 rfl (lv_at hl 2 rfl) ?_
    refine va_get (D := D) (ci := 4) (v := .ref b1) (C := RX4) (T := TX4) (N := 4) hx hb hts (fun _ h => List.mem_cons_of_mem _ (List.mem_append_left _ (List.mem_append_right _ h))) hown hK hP 2 rfl rfl 1 (by decide) (hts (.fieldLink RX7 36 "LitmusHall$Program" "lengths" "[I") (by decide +kernel)) (fun _ h9 => h9) rfl dX7_hasEnded_23 ?_
    refine lv_iload_n hx hb dX7_hasEnded_26 rfl (lv_at hl 0 rfl) ?_
    refine gy_ild (i := k) hx hb hK hP 3 rfl (by omega) (by omega) dX7_hasEnded_27 ?_
    refine gx_top (y := nI (L k)) rfl ?_
    have hL0 := hL k (by omega)
    refine gy_eq (a := ((f (13 + k)).toBitVec.toNat % 128)) (b := (L k)) (tgt := 33) hx hb (by omega) (by omega) dX7_hasEnded_28 (by decide) (fun c_3 => ?_) (fun c_3 => ?_)
    · refine lv_iinc (v := nI (k + 1)) (lv' := [(2, .int (nI (k + 1))), (0, .ref h0), (1, .ref p0)]) hx hb dX7_hasEnded_33 hl (k := 0) rfl (nI_add k 1) (by decide) rfl (fun ls hl => ?_)
      refine lv_goto (tgt := 2) hx hb dX7_hasEnded_36 (by decide) ?_
      exact ih2 (k + 1) H locs ls ⟨(by omega), hP, hD, hS, lv_sub hl [0, 1, 2] rfl⟩ (by show nc - (k + 1) < nc - k; omega)
    · refine lv_iconst (v := 0) hx hb dX7_hasEnded_31 (by decide) ?_
      exact gx_zret (w' := [(h0, .inr (7, [.ref a1])), (a1, .inl (cI, 34, .inl f)), (p0, .inr (4, [.int (nI nc), .ref b1, v2, v3])), (b1, .inl (cI, 3, .inl (fun j => nI (L j))))]) hx hb hr hlk hK hP hD hS (Nat.le_of_ble_eq_true rfl) (Nat.le_of_ble_eq_true rfl) dX7_hasEnded_32 rfl ⟨0, (by decide), rfl, rfl⟩
