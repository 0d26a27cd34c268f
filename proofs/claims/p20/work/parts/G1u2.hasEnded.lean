
def wsP_x_hasEnded : List Cond := .code yX7_hasEnded cX7_hasEnded 3 (some .boolean) :: (([.fieldLink RX7 15 "LitmusHall$Program" "cores" "I", .fieldLink RX7 11 "LitmusHall$State" "words" "[I", .fieldLink RX7 36 "LitmusHall$Program" "lengths" "[I"] ++ wsX40 ++ wsX70) ++ [])
theorem gW_x_hasEnded : wsP_x_hasEnded.all goodWord = true := by unfold wsP_x_hasEnded; exact gw_mk (by decide +kernel) rfl
set_option maxHeartbeats 4000000 in
set_option maxRecDepth 100000 in
theorem x_hasEnded (l : Launch) (D : va_G) (cI cB cZ : ClassId) (h0 : Nat) (a1 : Nat) (f : Nat → Int32) (p0 : Nat) (b1 : Nat) (v2 : Value) (v3 : Value) (nc : Nat) (L : Nat → Nat) (hc : nc ≤ 3) (hL : ∀ k, k < 3 → L k ≤ 8) : gMi l yX7_hasEnded wsP_x_hasEnded ({ frames := 0, cells := 0, slots := 0, locals := 0 }) D cI cB cZ [] [.ref h0, .ref p0] [(h0, .inr (7, [.ref a1])), (a1, .inl (cI, 34, .inl f)), (p0, .inr (4, [.int (nI nc), .ref b1, v2, v3])), (b1, .inl (cI, 3, .inl (fun j => nI (L j))))] (fun r9 w9 => ∃ z : Int32, (gZ z) ∧ ((z = 1 ∧ gEd f L nc) ∨ (z = 0 ∧ ¬ gEd f L nc)) ∧ r9 = z ∧ w9 = [(h0, .inr (7, [.ref a1])), (a1, .inl (cI, 34, .inl f)), (p0, .inr (4, [.int (nI nc), .ref b1, v2, v3])), (b1, .inl (cI, 3, .inl (fun j => nI (L j))))]) := by
  refine gMi.of (cc := cX7_hasEnded) (maxL := 3) (ret := (some .boolean)) (by decide) rfl (Nat.le_of_ble_eq_true rfl) (fun p e s m below meth c A ls hx hb hr hlk hml hts hown hin hA hP hK hD hS hN hl => ?_)
  have hown : s.vm.findClass RX7 = some m.cls := hown
  have hl : lv_has ls 3 [(0, .ref h0), (1, .ref p0)] := hl
  refine lv_iconst (v := 0) hx hb dX7_hasEnded_0 (by decide) ?_
  refine lv_istore_n (lv' := [(2, .int 0), (0, .ref h0), (1, .ref p0)]) hx hb dX7_hasEnded_1 rfl hl (by decide) rfl (fun ls hl => ?_)
  refine gy_loop0 (I := fun (x9 : Nat) H locs ls => (x9 ≤ nc) ∧ (∀ j, j < x9 → gLo (f (13 + j)) = L j) ∧ va_P D vwCl [(h0, .inr (7, [.ref a1])), (a1, .inl (cI, 34, .inl f)), (p0, .inr (4, [.int (nI nc), .ref b1, v2, v3])), (b1, .inl (cI, 3, .inl (fun j => nI (L j))))] H ∧ va_D A [(h0, .inr (7, [.ref a1])), (a1, .inl (cI, 34, .inl f)), (p0, .inr (4, [.int (nI nc), .ref b1, v2, v3])), (b1, .inl (cI, 3, .inl (fun j => nI (L j))))] ∧ va_S A s.heap H locs ∧ lv_has ls 3 [(2, .int (nI x9)), (0, .ref h0), (1, .ref p0)]) (μ := fun (x9 : Nat) => nc - x9) (fun x9 H locs ls hI ih2 => ?_) 0 ⟨(by show 0 ≤ nc; exact Nat.zero_le _), (fun j h => absurd h (Nat.not_lt_zero j)), hP, hD, hS, lv_sub hl [0, 1, 2] rfl⟩
  obtain ⟨k, rfl⟩ : ∃ z9, z9 = x9 := ⟨_, rfl⟩
  obtain ⟨hi2_0, hi2_1, hP, hD, hS, hl⟩ := hI
  have hi2_0 : k ≤ nc := hi2_0
  have hi2_1 : ∀ j, j < k → gLo (f (13 + j)) = L j := hi2_1
  have hP : va_P D vwCl [(h0, .inr (7, [.ref a1])), (a1, .inl (cI, 34, .inl f)), (p0, .inr (4, [.int (nI nc), .ref b1, v2, v3])), (b1, .inl (cI, 3, .inl (fun j => nI (L j))))] H := hP
  have hD : va_D A [(h0, .inr (7, [.ref a1])), (a1, .inl (cI, 34, .inl f)), (p0, .inr (4, [.int (nI nc), .ref b1, v2, v3])), (b1, .inl (cI, 3, .inl (fun j => nI (L j))))] := hD
  have hS : va_S A s.heap H locs := hS
  have hl : lv_has ls 3 [(2, .int (nI k)), (0, .ref h0), (1, .ref p0)] := hl
  refine lv_iload_n hx hb dX7_hasEnded_2 rfl (lv_at hl 0 rfl) ?_
  refine lv_aload_n hx hb dX7_hasEnded_3 rfl (lv_at hl 2 rfl) ?_
  refine va_get (D := D) (ci := 4) (v := .int (nI nc)) (C := RX4) (T := TX4) (N := 4) hx hb hts (fun _ h => List.mem_cons_of_mem _ (List.mem_append_left _ (List.mem_append_left _ (List.mem_append_right _ h)))) hown hK hP 2 rfl rfl 0 (by decide) (hts (.fieldLink RX7 15 "LitmusHall$Program" "cores" "I") (by decide +kernel)) (fun _ h9 => h9) rfl dX7_hasEnded_4 ?_
  refine gy_ge (a := k) (b := nc) (tgt := 39) hx hb (by omega) (by omega) dX7_hasEnded_7 (by decide) (fun c_1 => ?_) (fun c_1 => ?_)
  · refine lv_iconst (v := 1) hx hb dX7_hasEnded_39 (by decide) ?_
    exact gx_zret (w' := [(h0, .inr (7, [.ref a1])), (a1, .inl (cI, 34, .inl f)), (p0, .inr (4, [.int (nI nc), .ref b1, v2, v3])), (b1, .inl (cI, 3, .inl (fun j => nI (L j))))]) hx hb hr hlk hK hP hD hS (Nat.le_of_ble_eq_true rfl) (Nat.le_of_ble_eq_true rfl) dX7_hasEnded_40 rfl ⟨1, (Or.inr rfl), (Or.inl ⟨rfl, fun j h => hi2_1 j (by omega)⟩), rfl, rfl⟩
  · refine lv_aload_n hx hb dX7_hasEnded_10 rfl (lv_at hl 1 rfl) ?_
    refine va_get (D := D) (ci := 7) (v := .ref a1) (C := RX7) (T := TX7) (N := 1) hx hb hts (fun _ h => List.mem_cons_of_mem _ (List.mem_append_left _ (List.mem_append_right _ h))) hown hK hP 0 rfl rfl 0 (by decide) (hts (.fieldLink RX7 11 "LitmusHall$State" "words" "[I") (by decide +kernel)) (fun _ h9 => h9) rfl dX7_hasEnded_11 ?_
    refine lv_bipush (v := 13) hx hb dX7_hasEnded_14 (by decide) ?_
    refine lv_iload_n hx hb dX7_hasEnded_16 rfl (lv_at hl 0 rfl) ?_
    refine lv_iadd hx hb dX7_hasEnded_17 ?_
    refine gx_top (y := nI (13 + k)) (nI_add 13 k) ?_
    refine gy_ild (i := (13 + k)) hx hb hK hP 1 rfl (by omega) (by omega) dX7_hasEnded_18 ?_
    refine lv_bipush (v := 127) hx hb dX7_hasEnded_19 (by decide) ?_
    refine lv_iand hx hb dX7_hasEnded_21 ?_
    refine gx_top (pk_and (f (13 + k)) (m := 127) 7 (by decide +kernel)) ?_
    have hj2 : (f (13 + k)).toBitVec.toNat % 128 < 128 := Nat.mod_lt _ (by decide)
    refine lv_aload_n hx hb dX7_hasEnded_22 rfl (lv_at hl 2 rfl) ?_
    refine va_get (D := D) (ci := 4) (v := .ref b1) (C := RX4) (T := TX4) (N := 4) hx hb hts (fun _ h => List.mem_cons_of_mem _ (List.mem_append_left _ (List.mem_append_left _ (List.mem_append_right _ h)))) hown hK hP 2 rfl rfl 1 (by decide) (hts (.fieldLink RX7 36 "LitmusHall$Program" "lengths" "[I") (by decide +kernel)) (fun _ h9 => h9) rfl dX7_hasEnded_23 ?_
    refine lv_iload_n hx hb dX7_hasEnded_26 rfl (lv_at hl 0 rfl) ?_
    refine gy_ild (i := k) hx hb hK hP 3 rfl (by omega) (by omega) dX7_hasEnded_27 ?_
    refine gx_top (y := nI (L k)) rfl ?_
    have hL0 := hL k (by omega)
    refine gy_eq (a := ((f (13 + k)).toBitVec.toNat % 128)) (b := (L k)) (tgt := 33) hx hb (by omega) (by omega) dX7_hasEnded_28 (by decide) (fun c_3 => ?_) (fun c_3 => ?_)
    · refine lv_iinc (v := nI (k + 1)) (lv' := [(2, .int (nI (k + 1))), (0, .ref h0), (1, .ref p0)]) hx hb dX7_hasEnded_33 hl (k := 0) rfl (nI_add k 1) (by decide) rfl (fun ls hl => ?_)
      refine lv_goto (tgt := 2) hx hb dX7_hasEnded_36 (by decide) ?_
      exact ih2 (k + 1) H locs ls ⟨(by show (k + 1) ≤ nc; omega), (fun j hj => by by_cases e9 : j = k; (subst e9; show (f (13 + j)).toBitVec.toNat % 128 = L j; omega); exact hi2_1 j (by omega)), hP, hD, hS, lv_sub hl [0, 1, 2] rfl⟩ (by show nc - (k + 1) < nc - k; omega)
    · refine lv_iconst (v := 0) hx hb dX7_hasEnded_31 (by decide) ?_
      exact gx_zret (w' := [(h0, .inr (7, [.ref a1])), (a1, .inl (cI, 34, .inl f)), (p0, .inr (4, [.int (nI nc), .ref b1, v2, v3])), (b1, .inl (cI, 3, .inl (fun j => nI (L j))))]) hx hb hr hlk hK hP hD hS (Nat.le_of_ble_eq_true rfl) (Nat.le_of_ble_eq_true rfl) dX7_hasEnded_32 rfl ⟨0, (Or.inl rfl), (Or.inr ⟨rfl, fun h => by have h9 : (f (13 + k)).toBitVec.toNat % 128 = L k := h k (by omega); omega⟩), rfl, rfl⟩
