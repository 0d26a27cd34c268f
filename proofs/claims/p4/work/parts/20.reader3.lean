theorem dX6_numberOf_0 : decode cX6_numberOf 0 = .ok (.iconst 0, 1) := by decide +kernel
theorem dX6_numberOf_1 : decode cX6_numberOf 1 = .ok (.istore_n 3, 1) := by decide +kernel
theorem dX6_numberOf_11 : decode cX6_numberOf 11 = .ok (.iload_n 3, 1) := by decide +kernel
theorem dX6_numberOf_12 : decode cX6_numberOf 12 = .ok (.bipush 10, 2) := by decide +kernel
theorem dX6_numberOf_14 : decode cX6_numberOf 14 = .ok (.imul, 1) := by decide +kernel
theorem dX6_numberOf_15 : decode cX6_numberOf 15 = .ok (.aload_n 0, 1) := by decide +kernel
theorem dX6_numberOf_16 : decode cX6_numberOf 16 = .ok (.iload 4, 2) := by decide +kernel
theorem dX6_numberOf_18 : decode cX6_numberOf 18 = .ok (.baload, 1) := by decide +kernel
theorem dX6_numberOf_19 : decode cX6_numberOf 19 = .ok (.bipush 48, 2) := by decide +kernel
theorem dX6_numberOf_2 : decode cX6_numberOf 2 = .ok (.iload_n 1, 1) := by decide +kernel
theorem dX6_numberOf_21 : decode cX6_numberOf 21 = .ok (.isub, 1) := by decide +kernel
theorem dX6_numberOf_22 : decode cX6_numberOf 22 = .ok (.iadd, 1) := by decide +kernel
theorem dX6_numberOf_23 : decode cX6_numberOf 23 = .ok (.istore_n 3, 1) := by decide +kernel
theorem dX6_numberOf_24 : decode cX6_numberOf 24 = .ok (.iinc 4 1, 3) := by decide +kernel
theorem dX6_numberOf_27 : decode cX6_numberOf 27 = .ok (.goto (-22), 3) := by decide +kernel
theorem dX6_numberOf_3 : decode cX6_numberOf 3 = .ok (.istore 4, 2) := by decide +kernel
theorem dX6_numberOf_30 : decode cX6_numberOf 30 = .ok (.iload_n 3, 1) := by decide +kernel
theorem dX6_numberOf_31 : decode cX6_numberOf 31 = .ok (.ireturn, 1) := by decide +kernel
theorem dX6_numberOf_5 : decode cX6_numberOf 5 = .ok (.iload 4, 2) := by decide +kernel
theorem dX6_numberOf_7 : decode cX6_numberOf 7 = .ok (.iload_n 2, 1) := by decide +kernel
theorem dX6_numberOf_8 : decode cX6_numberOf 8 = .ok (.if_icmp .ge 22, 3) := by decide +kernel
theorem gy_dig {x : Int32} (h : ¬ x < 48 ∧ ¬ 57 < x) : ∃ d, d ≤ 9 ∧ x = nI (48 + d) := by
  have h0 : ¬ x < 0 := fun q => h.1 (Int32.lt_trans q (by decide))
  obtain ⟨j, hj, rfl⟩ := nI_of h0
  have a1 : ¬ j < 48 := fun q => h.1 ((nI_ltI (b := 48) hj (by decide)).mpr q)
  have a2 : ¬ 57 < j := fun q => h.2 ((nI_ltI (a := 57) (by decide) hj).mpr q)
  exact ⟨j - 48, by omega, by congr 1; omega⟩
def wsP_c_numberOf : List Cond := .code yX6_numberOf cX6_numberOf 5 (some .int) :: ([])
set_option maxHeartbeats 4000000 in
set_option maxRecDepth 100000 in
theorem c_numberOf (l : Launch) (D : va_G) (cI cB cZ : ClassId) (a : Nat) (f : Nat → Int32) (fr : Nat) (b : Nat) (hb0 : b ≤ 4000) (hfb : fr ≤ b) (h3 : b ≤ fr + 3) (hd : ∀ j, fr ≤ j → j < b → (¬ f j < 48 ∧ ¬ 57 < f j)) : gMi l yX6_numberOf wsP_c_numberOf ({ frames := 0, cells := 0, slots := 0, locals := 0 }) D cI cB cZ [] [.ref a, .int (nI fr), .int (nI b)] [(a, .inl (cB, 4000, .inl f))] (fun r9 w9 => ∃ t : Nat, (t ≤ 999) ∧ r9 = (nI t) ∧ w9 = [(a, .inl (cB, 4000, .inl f))]) := by
  refine gMi.of (cc := cX6_numberOf) (maxL := 5) (ret := (some .int)) (by decide) rfl (Nat.le_of_ble_eq_true rfl) (fun p e s m below meth c A ls hx hb hr hlk hml hts hown hin hA hP hK hD hS hN hl => ?_)
  have hown : s.vm.findClass RX6 = some m.cls := hown
  have hl : lv_has ls 5 [(0, .ref a), (1, .int (nI fr)), (2, .int (nI b))] := hl
  refine lv_iconst (v := 0) hx hb dX6_numberOf_0 (by decide) ?_
  refine lv_istore_n (lv' := [(3, .int 0), (0, .ref a), (1, .int (nI fr)), (2, .int (nI b))]) hx hb dX6_numberOf_1 rfl hl (by decide) rfl (fun ls hl => ?_)
  refine lv_iload_n hx hb dX6_numberOf_2 rfl (lv_at hl 2 rfl) ?_
  refine lv_istore (lv' := [(4, .int (nI fr)), (3, .int 0), (0, .ref a), (1, .int (nI fr)), (2, .int (nI b))]) hx hb dX6_numberOf_3 hl (by decide) rfl (fun ls hl => ?_)
  refine gy_loop0 (I := fun (x9 : Nat × Nat) H locs ls => (fr ≤ x9.1) ∧ (x9.1 ≤ b) ∧ ((x9.1 = fr ∧ x9.2 = 0) ∨ (x9.1 = fr + 1 ∧ x9.2 ≤ 9) ∨ (x9.1 = fr + 2 ∧ x9.2 ≤ 99) ∨ (x9.1 = fr + 3 ∧ x9.2 ≤ 999)) ∧ va_P D vwCl [(a, .inl (cB, 4000, .inl f))] H ∧ va_D A [(a, .inl (cB, 4000, .inl f))] ∧ va_S A s.heap H locs ∧ lv_has ls 5 [(4, .int (nI x9.1)), (3, .int (nI x9.2)), (0, .ref a), (1, .int (nI fr)), (2, .int (nI b))]) (μ := fun (x9 : Nat × Nat) => b - x9.1) (fun x9 H locs ls hI ih5 => ?_) (fr, 0) ⟨(by omega), (by omega), (by omega), hP, hD, hS, lv_sub hl [0, 1, 2, 3, 4] rfl⟩
  obtain ⟨i, m9⟩ := x9
  obtain ⟨hi5_0, hi5_1, hi5_2, hP, hD, hS, hl⟩ := hI
  have hi5_0 : fr ≤ i := hi5_0
  have hi5_1 : i ≤ b := hi5_1
  have hi5_2 : (i = fr ∧ m9 = 0) ∨ (i = fr + 1 ∧ m9 ≤ 9) ∨ (i = fr + 2 ∧ m9 ≤ 99) ∨ (i = fr + 3 ∧ m9 ≤ 999) := hi5_2
  have hP : va_P D vwCl [(a, .inl (cB, 4000, .inl f))] H := hP
  have hD : va_D A [(a, .inl (cB, 4000, .inl f))] := hD
  have hS : va_S A s.heap H locs := hS
  have hl : lv_has ls 5 [(4, .int (nI i)), (3, .int (nI m9)), (0, .ref a), (1, .int (nI fr)), (2, .int (nI b))] := hl
  refine lv_iload hx hb dX6_numberOf_5 (lv_at hl 0 rfl) ?_
  refine lv_iload_n hx hb dX6_numberOf_7 rfl (lv_at hl 4 rfl) ?_
  refine gy_ge (a := i) (b := b) (tgt := 30) hx hb (by omega) (by omega) dX6_numberOf_8 (by decide) (fun c_1 => ?_) (fun c_1 => ?_)
  · refine lv_iload_n hx hb dX6_numberOf_30 rfl (lv_at hl 1 rfl) ?_
    exact gx_iret (w' := [(a, .inl (cB, 4000, .inl f))]) hx hb hr hlk hK hP hD hS (Nat.le_of_ble_eq_true rfl) (Nat.le_of_ble_eq_true rfl) dX6_numberOf_31 ⟨m9, (by omega), rfl, rfl⟩
  · refine lv_iload_n hx hb dX6_numberOf_11 rfl (lv_at hl 1 rfl) ?_
    refine lv_bipush (v := 10) hx hb dX6_numberOf_12 (by decide) ?_
    refine lv_imul hx hb dX6_numberOf_14 ?_
    refine gx_top (y := nI (m9 * 10)) (pk_mul m9 10) ?_
    refine lv_aload_n hx hb dX6_numberOf_15 rfl (lv_at hl 2 rfl) ?_
    refine lv_iload hx hb dX6_numberOf_16 (lv_at hl 0 rfl) ?_
    obtain ⟨d, hd9, ed⟩ := gy_dig (hd i (by omega) (by omega))
    refine gy_bld (i := i) hx hb hK hP 0 rfl (by omega) (by omega) dX6_numberOf_18 ?_
    refine gx_top (y := nI (48 + d)) ed ?_
    refine lv_bipush (v := 48) hx hb dX6_numberOf_19 (by decide) ?_
    refine lv_isub hx hb dX6_numberOf_21 ?_
    refine gx_top (y := nI d) (show nI (48 + d) - nI 48 = nI d by rw [pk_sub (a := 48 + d) (b := 48) (by omega)]; congr 1; omega) ?_
    refine lv_iadd hx hb dX6_numberOf_22 ?_
    refine gx_top (y := nI ((m9 * 10) + d)) (nI_add (m9 * 10) d) ?_
    refine lv_istore_n (lv' := [(3, .int (nI ((m9 * 10) + d))), (4, .int (nI i)), (0, .ref a), (1, .int (nI fr)), (2, .int (nI b))]) hx hb dX6_numberOf_23 rfl hl (by decide) rfl (fun ls hl => ?_)
    refine lv_iinc (v := nI (i + 1)) (lv' := [(4, .int (nI (i + 1))), (3, .int (nI ((m9 * 10) + d))), (0, .ref a), (1, .int (nI fr)), (2, .int (nI b))]) hx hb dX6_numberOf_24 hl (k := 1) rfl (nI_add i 1) (by decide) rfl (fun ls hl => ?_)
    refine lv_goto (tgt := 5) hx hb dX6_numberOf_27 (by decide) ?_
    exact ih5 ((i + 1), ((m9 * 10) + d)) H locs ls ⟨(by omega), (by omega), (by omega), hP, hD, hS, lv_sub hl [0, 1, 2, 3, 4] rfl⟩ (by show b - (i + 1) < b - i; omega)
