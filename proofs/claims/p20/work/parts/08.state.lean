theorem dX7_nextOf_0 : decode cX7_nextOf 0 = .ok (.aload_n 0, 1) := by decide +kernel
theorem dX7_nextOf_1 : decode cX7_nextOf 1 = .ok (.getfield 11, 3) := by decide +kernel
theorem dX7_nextOf_11 : decode cX7_nextOf 11 = .ok (.iand, 1) := by decide +kernel
theorem dX7_nextOf_12 : decode cX7_nextOf 12 = .ok (.ireturn, 1) := by decide +kernel
theorem dX7_nextOf_4 : decode cX7_nextOf 4 = .ok (.bipush 13, 2) := by decide +kernel
theorem dX7_nextOf_6 : decode cX7_nextOf 6 = .ok (.iload_n 1, 1) := by decide +kernel
theorem dX7_nextOf_7 : decode cX7_nextOf 7 = .ok (.iadd, 1) := by decide +kernel
theorem dX7_nextOf_8 : decode cX7_nextOf 8 = .ok (.iaload, 1) := by decide +kernel
theorem dX7_nextOf_9 : decode cX7_nextOf 9 = .ok (.bipush 15, 2) := by decide +kernel
theorem dX7_rowCell_0 : decode cX7_rowCell 0 = .ok (.aload_n 0, 1) := by decide +kernel
theorem dX7_rowCell_1 : decode cX7_rowCell 1 = .ok (.getfield 11, 3) := by decide +kernel
theorem dX7_rowCell_11 : decode cX7_rowCell 11 = .ok (.iconst 2, 1) := by decide +kernel
theorem dX7_rowCell_12 : decode cX7_rowCell 12 = .ok (.iload_n 2, 1) := by decide +kernel
theorem dX7_rowCell_13 : decode cX7_rowCell 13 = .ok (.imul, 1) := by decide +kernel
theorem dX7_rowCell_14 : decode cX7_rowCell 14 = .ok (.iadd, 1) := by decide +kernel
theorem dX7_rowCell_15 : decode cX7_rowCell 15 = .ok (.ishr, 1) := by decide +kernel
theorem dX7_rowCell_16 : decode cX7_rowCell 16 = .ok (.iconst 3, 1) := by decide +kernel
theorem dX7_rowCell_17 : decode cX7_rowCell 17 = .ok (.iand, 1) := by decide +kernel
theorem dX7_rowCell_18 : decode cX7_rowCell 18 = .ok (.ireturn, 1) := by decide +kernel
theorem dX7_rowCell_4 : decode cX7_rowCell 4 = .ok (.bipush 13, 2) := by decide +kernel
theorem dX7_rowCell_6 : decode cX7_rowCell 6 = .ok (.iload_n 1, 1) := by decide +kernel
theorem dX7_rowCell_7 : decode cX7_rowCell 7 = .ok (.iadd, 1) := by decide +kernel
theorem dX7_rowCell_8 : decode cX7_rowCell 8 = .ok (.iaload, 1) := by decide +kernel
theorem dX7_rowCell_9 : decode cX7_rowCell 9 = .ok (.bipush 7, 2) := by decide +kernel
theorem dX7_rowInt_0 : decode cX7_rowInt 0 = .ok (.aload_n 0, 1) := by decide +kernel
theorem dX7_rowInt_1 : decode cX7_rowInt 1 = .ok (.getfield 11, 3) := by decide +kernel
theorem dX7_rowInt_10 : decode cX7_rowInt 10 = .ok (.iadd, 1) := by decide +kernel
theorem dX7_rowInt_11 : decode cX7_rowInt 11 = .ok (.iload_n 2, 1) := by decide +kernel
theorem dX7_rowInt_12 : decode cX7_rowInt 12 = .ok (.iadd, 1) := by decide +kernel
theorem dX7_rowInt_13 : decode cX7_rowInt 13 = .ok (.iaload, 1) := by decide +kernel
theorem dX7_rowInt_14 : decode cX7_rowInt 14 = .ok (.ireturn, 1) := by decide +kernel
theorem dX7_rowInt_4 : decode cX7_rowInt 4 = .ok (.bipush 16, 2) := by decide +kernel
theorem dX7_rowInt_6 : decode cX7_rowInt 6 = .ok (.iload_n 1, 1) := by decide +kernel
theorem dX7_rowInt_7 : decode cX7_rowInt 7 = .ok (.bipush 6, 2) := by decide +kernel
theorem dX7_rowInt_9 : decode cX7_rowInt 9 = .ok (.imul, 1) := by decide +kernel
theorem dX7_rowSize_0 : decode cX7_rowSize 0 = .ok (.aload_n 0, 1) := by decide +kernel
theorem dX7_rowSize_1 : decode cX7_rowSize 1 = .ok (.getfield 11, 3) := by decide +kernel
theorem dX7_rowSize_10 : decode cX7_rowSize 10 = .ok (.ishr, 1) := by decide +kernel
theorem dX7_rowSize_11 : decode cX7_rowSize 11 = .ok (.bipush 7, 2) := by decide +kernel
theorem dX7_rowSize_13 : decode cX7_rowSize 13 = .ok (.iand, 1) := by decide +kernel
theorem dX7_rowSize_14 : decode cX7_rowSize 14 = .ok (.ireturn, 1) := by decide +kernel
theorem dX7_rowSize_4 : decode cX7_rowSize 4 = .ok (.bipush 13, 2) := by decide +kernel
theorem dX7_rowSize_6 : decode cX7_rowSize 6 = .ok (.iload_n 1, 1) := by decide +kernel
theorem dX7_rowSize_7 : decode cX7_rowSize 7 = .ok (.iadd, 1) := by decide +kernel
theorem dX7_rowSize_8 : decode cX7_rowSize 8 = .ok (.iaload, 1) := by decide +kernel
theorem dX7_rowSize_9 : decode cX7_rowSize 9 = .ok (.iconst 4, 1) := by decide +kernel
theorem dX7_storedTo_0 : decode cX7_storedTo 0 = .ok (.aload_n 0, 1) := by decide +kernel
theorem dX7_storedTo_1 : decode cX7_storedTo 1 = .ok (.getfield 11, 3) := by decide +kernel
theorem dX7_storedTo_11 : decode cX7_storedTo 11 = .ok (.ishr, 1) := by decide +kernel
theorem dX7_storedTo_12 : decode cX7_storedTo 12 = .ok (.bipush 15, 2) := by decide +kernel
theorem dX7_storedTo_14 : decode cX7_storedTo 14 = .ok (.iand, 1) := by decide +kernel
theorem dX7_storedTo_15 : decode cX7_storedTo 15 = .ok (.ireturn, 1) := by decide +kernel
theorem dX7_storedTo_4 : decode cX7_storedTo 4 = .ok (.bipush 13, 2) := by decide +kernel
theorem dX7_storedTo_6 : decode cX7_storedTo 6 = .ok (.iload_n 1, 1) := by decide +kernel
theorem dX7_storedTo_7 : decode cX7_storedTo 7 = .ok (.iadd, 1) := by decide +kernel
theorem dX7_storedTo_8 : decode cX7_storedTo 8 = .ok (.iaload, 1) := by decide +kernel
theorem dX7_storedTo_9 : decode cX7_storedTo 9 = .ok (.bipush 19, 2) := by decide +kernel
def gNx (x : Int32) : Nat := x.toBitVec.toNat % 16
def gSz (x : Int32) : Nat := (x >>> ((4 : Int32) &&& 31)).toBitVec.toNat % 8
theorem gNx_lt (x : Int32) : gNx x < 16 := Nat.mod_lt _ (by decide)
theorem gSz_lt (x : Int32) : gSz x < 8 := Nat.mod_lt _ (by decide)
def wsP_c_nextOf : List Cond := .code yX7_nextOf cX7_nextOf 2 (some .int) :: ([.fieldLink RX7 11 "LitmusHall$State" "words" "[I"] ++ wsX70)
set_option maxHeartbeats 4000000 in
set_option maxRecDepth 100000 in
theorem c_nextOf (l : Launch) (D : va_G) (cI cB cZ : ClassId) (h0 : Nat) (a1 : Nat) (f : Nat → Int32) (k : Nat) (hk : k < 3) : gMi l yX7_nextOf wsP_c_nextOf ({ frames := 0, cells := 0, slots := 0, locals := 0 }) D cI cB cZ [] [.ref h0, .int (nI k)] [(h0, .inr (7, [.ref a1])), (a1, .inl (cI, 34, .inl f))] (fun r9 w9 => r9 = (nI (gNx (f (13 + k)))) ∧ w9 = [(h0, .inr (7, [.ref a1])), (a1, .inl (cI, 34, .inl f))]) := by
  refine gMi.of (cc := cX7_nextOf) (maxL := 2) (ret := (some .int)) (by decide) rfl (Nat.le_of_ble_eq_true rfl) (fun p e s m below meth c A ls hx hb hr hlk hml hts hown hin hA hP hK hD hS hN hl => ?_)
  have hown : s.vm.findClass RX7 = some m.cls := hown
  have hl : lv_has ls 2 [(0, .ref h0), (1, .int (nI k))] := hl
  refine lv_aload_n hx hb dX7_nextOf_0 rfl (lv_at hl 0 rfl) ?_
  refine va_get (D := D) (ci := 7) (v := .ref a1) (C := RX7) (T := TX7) (N := 1) hx hb hts (fun _ h => List.mem_cons_of_mem _ (List.mem_append_right _ h)) hown hK hP 0 rfl rfl 0 (by decide) (hts (.fieldLink RX7 11 "LitmusHall$State" "words" "[I") (by decide +kernel)) (fun _ h9 => h9) rfl dX7_nextOf_1 ?_
  refine lv_bipush (v := 13) hx hb dX7_nextOf_4 (by decide) ?_
  refine lv_iload_n hx hb dX7_nextOf_6 rfl (lv_at hl 1 rfl) ?_
  refine lv_iadd hx hb dX7_nextOf_7 ?_
  refine gx_top (y := nI (13 + k)) (nI_add 13 k) ?_
  refine gy_ild (i := (13 + k)) hx hb hK hP 1 rfl (by omega) (by omega) dX7_nextOf_8 ?_
  refine lv_bipush (v := 15) hx hb dX7_nextOf_9 (by decide) ?_
  refine lv_iand hx hb dX7_nextOf_11 ?_
  refine gx_top (pk_and (f (13 + k)) (m := 15) 4 (by decide +kernel)) ?_
  have hj1 : (f (13 + k)).toBitVec.toNat % 16 < 16 := Nat.mod_lt _ (by decide)
  exact gx_iret (w' := [(h0, .inr (7, [.ref a1])), (a1, .inl (cI, 34, .inl f))]) hx hb hr hlk hK hP hD hS (Nat.le_of_ble_eq_true rfl) (Nat.le_of_ble_eq_true rfl) dX7_nextOf_12 ⟨rfl, rfl⟩
def wsP_c_rowSize : List Cond := .code yX7_rowSize cX7_rowSize 2 (some .int) :: ([.fieldLink RX7 11 "LitmusHall$State" "words" "[I"] ++ wsX70)
set_option maxHeartbeats 4000000 in
set_option maxRecDepth 100000 in
theorem c_rowSize (l : Launch) (D : va_G) (cI cB cZ : ClassId) (h0 : Nat) (a1 : Nat) (f : Nat → Int32) (k : Nat) (hk : k < 3) : gMi l yX7_rowSize wsP_c_rowSize ({ frames := 0, cells := 0, slots := 0, locals := 0 }) D cI cB cZ [] [.ref h0, .int (nI k)] [(h0, .inr (7, [.ref a1])), (a1, .inl (cI, 34, .inl f))] (fun r9 w9 => r9 = (nI (gSz (f (13 + k)))) ∧ w9 = [(h0, .inr (7, [.ref a1])), (a1, .inl (cI, 34, .inl f))]) := by
  refine gMi.of (cc := cX7_rowSize) (maxL := 2) (ret := (some .int)) (by decide) rfl (Nat.le_of_ble_eq_true rfl) (fun p e s m below meth c A ls hx hb hr hlk hml hts hown hin hA hP hK hD hS hN hl => ?_)
  have hown : s.vm.findClass RX7 = some m.cls := hown
  have hl : lv_has ls 2 [(0, .ref h0), (1, .int (nI k))] := hl
  refine lv_aload_n hx hb dX7_rowSize_0 rfl (lv_at hl 0 rfl) ?_
  refine va_get (D := D) (ci := 7) (v := .ref a1) (C := RX7) (T := TX7) (N := 1) hx hb hts (fun _ h => List.mem_cons_of_mem _ (List.mem_append_right _ h)) hown hK hP 0 rfl rfl 0 (by decide) (hts (.fieldLink RX7 11 "LitmusHall$State" "words" "[I") (by decide +kernel)) (fun _ h9 => h9) rfl dX7_rowSize_1 ?_
  refine lv_bipush (v := 13) hx hb dX7_rowSize_4 (by decide) ?_
  refine lv_iload_n hx hb dX7_rowSize_6 rfl (lv_at hl 1 rfl) ?_
  refine lv_iadd hx hb dX7_rowSize_7 ?_
  refine gx_top (y := nI (13 + k)) (nI_add 13 k) ?_
  refine gy_ild (i := (13 + k)) hx hb hK hP 1 rfl (by omega) (by omega) dX7_rowSize_8 ?_
  refine lv_iconst (v := 4) hx hb dX7_rowSize_9 (by decide) ?_
  refine lv_ishr hx hb dX7_rowSize_10 ?_
  refine lv_bipush (v := 7) hx hb dX7_rowSize_11 (by decide) ?_
  refine lv_iand hx hb dX7_rowSize_13 ?_
  refine gx_top (pk_and ((f (13 + k)) >>> ((4 : Int32) &&& 31)) (m := 7) 3 (by decide +kernel)) ?_
  have hj1 : ((f (13 + k)) >>> ((4 : Int32) &&& 31)).toBitVec.toNat % 8 < 8 := Nat.mod_lt _ (by decide)
  exact gx_iret (w' := [(h0, .inr (7, [.ref a1])), (a1, .inl (cI, 34, .inl f))]) hx hb hr hlk hK hP hD hS (Nat.le_of_ble_eq_true rfl) (Nat.le_of_ble_eq_true rfl) dX7_rowSize_14 ⟨rfl, rfl⟩
def wsP_c_rowCell : List Cond := .code yX7_rowCell cX7_rowCell 3 (some .int) :: ([.fieldLink RX7 11 "LitmusHall$State" "words" "[I"] ++ wsX70)
set_option maxHeartbeats 4000000 in
set_option maxRecDepth 100000 in
theorem c_rowCell (l : Launch) (D : va_G) (cI cB cZ : ClassId) (h0 : Nat) (a1 : Nat) (f : Nat → Int32) (k : Nat) (i : Nat) (hk : k < 3) : gMi l yX7_rowCell wsP_c_rowCell ({ frames := 0, cells := 0, slots := 0, locals := 0 }) D cI cB cZ [] [.ref h0, .int (nI k), .int (nI i)] [(h0, .inr (7, [.ref a1])), (a1, .inl (cI, 34, .inl f))] (fun r9 w9 => ∃ j : Nat, (j < 4) ∧ r9 = (nI j) ∧ w9 = [(h0, .inr (7, [.ref a1])), (a1, .inl (cI, 34, .inl f))]) := by
  refine gMi.of (cc := cX7_rowCell) (maxL := 3) (ret := (some .int)) (by decide) rfl (Nat.le_of_ble_eq_true rfl) (fun p e s m below meth c A ls hx hb hr hlk hml hts hown hin hA hP hK hD hS hN hl => ?_)
  have hown : s.vm.findClass RX7 = some m.cls := hown
  have hl : lv_has ls 3 [(0, .ref h0), (1, .int (nI k)), (2, .int (nI i))] := hl
  refine lv_aload_n hx hb dX7_rowCell_0 rfl (lv_at hl 0 rfl) ?_
  refine va_get (D := D) (ci := 7) (v := .ref a1) (C := RX7) (T := TX7) (N := 1) hx hb hts (fun _ h => List.mem_cons_of_mem _ (List.mem_append_right _ h)) hown hK hP 0 rfl rfl 0 (by decide) (hts (.fieldLink RX7 11 "LitmusHall$State" "words" "[I") (by decide +kernel)) (fun _ h9 => h9) rfl dX7_rowCell_1 ?_
  refine lv_bipush (v := 13) hx hb dX7_rowCell_4 (by decide) ?_
  refine lv_iload_n hx hb dX7_rowCell_6 rfl (lv_at hl 1 rfl) ?_
  refine lv_iadd hx hb dX7_rowCell_7 ?_
  refine gx_top (y := nI (13 + k)) (nI_add 13 k) ?_
  refine gy_ild (i := (13 + k)) hx hb hK hP 1 rfl (by omega) (by omega) dX7_rowCell_8 ?_
  refine lv_bipush (v := 7) hx hb dX7_rowCell_9 (by decide) ?_
  refine lv_iconst (v := 2) hx hb dX7_rowCell_11 (by decide) ?_
  refine lv_iload_n hx hb dX7_rowCell_12 rfl (lv_at hl 2 rfl) ?_
  refine lv_imul hx hb dX7_rowCell_13 ?_
  refine gx_top (y := nI (2 * i)) (pk_mul 2 i) ?_
  refine lv_iadd hx hb dX7_rowCell_14 ?_
  refine gx_top (y := nI (7 + (2 * i))) (nI_add 7 (2 * i)) ?_
  refine lv_ishr hx hb dX7_rowCell_15 ?_
  refine lv_iconst (v := 3) hx hb dX7_rowCell_16 (by decide) ?_
  refine lv_iand hx hb dX7_rowCell_17 ?_
  refine gx_top (pk_and ((f (13 + k)) >>> (((nI (7 + (2 * i))) : Int32) &&& 31)) (m := 3) 2 (by decide +kernel)) ?_
  have hj1 : ((f (13 + k)) >>> (((nI (7 + (2 * i))) : Int32) &&& 31)).toBitVec.toNat % 4 < 4 := Nat.mod_lt _ (by decide)
  exact gx_iret (w' := [(h0, .inr (7, [.ref a1])), (a1, .inl (cI, 34, .inl f))]) hx hb hr hlk hK hP hD hS (Nat.le_of_ble_eq_true rfl) (Nat.le_of_ble_eq_true rfl) dX7_rowCell_18 ⟨(((f (13 + k)) >>> (((nI (7 + (2 * i))) : Int32) &&& 31)).toBitVec.toNat % 4), (by omega), rfl, rfl⟩
def wsP_c_rowInt : List Cond := .code yX7_rowInt cX7_rowInt 3 (some .int) :: ([.fieldLink RX7 11 "LitmusHall$State" "words" "[I"] ++ wsX70)
set_option maxHeartbeats 4000000 in
set_option maxRecDepth 100000 in
theorem c_rowInt (l : Launch) (D : va_G) (cI cB cZ : ClassId) (h0 : Nat) (a1 : Nat) (f : Nat → Int32) (k : Nat) (i : Nat) (hk : k < 3) (hi : i < 6) : gMi l yX7_rowInt wsP_c_rowInt ({ frames := 0, cells := 0, slots := 0, locals := 0 }) D cI cB cZ [] [.ref h0, .int (nI k), .int (nI i)] [(h0, .inr (7, [.ref a1])), (a1, .inl (cI, 34, .inl f))] (fun r9 w9 => r9 = (f ((16 + (k * 6)) + i)) ∧ w9 = [(h0, .inr (7, [.ref a1])), (a1, .inl (cI, 34, .inl f))]) := by
  refine gMi.of (cc := cX7_rowInt) (maxL := 3) (ret := (some .int)) (by decide) rfl (Nat.le_of_ble_eq_true rfl) (fun p e s m below meth c A ls hx hb hr hlk hml hts hown hin hA hP hK hD hS hN hl => ?_)
  have hown : s.vm.findClass RX7 = some m.cls := hown
  have hl : lv_has ls 3 [(0, .ref h0), (1, .int (nI k)), (2, .int (nI i))] := hl
  refine lv_aload_n hx hb dX7_rowInt_0 rfl (lv_at hl 0 rfl) ?_
  refine va_get (D := D) (ci := 7) (v := .ref a1) (C := RX7) (T := TX7) (N := 1) hx hb hts (fun _ h => List.mem_cons_of_mem _ (List.mem_append_right _ h)) hown hK hP 0 rfl rfl 0 (by decide) (hts (.fieldLink RX7 11 "LitmusHall$State" "words" "[I") (by decide +kernel)) (fun _ h9 => h9) rfl dX7_rowInt_1 ?_
  refine lv_bipush (v := 16) hx hb dX7_rowInt_4 (by decide) ?_
  refine lv_iload_n hx hb dX7_rowInt_6 rfl (lv_at hl 1 rfl) ?_
  refine lv_bipush (v := 6) hx hb dX7_rowInt_7 (by decide) ?_
  refine lv_imul hx hb dX7_rowInt_9 ?_
  refine gx_top (y := nI (k * 6)) (pk_mul k 6) ?_
  refine lv_iadd hx hb dX7_rowInt_10 ?_
  refine gx_top (y := nI (16 + (k * 6))) (nI_add 16 (k * 6)) ?_
  refine lv_iload_n hx hb dX7_rowInt_11 rfl (lv_at hl 2 rfl) ?_
  refine lv_iadd hx hb dX7_rowInt_12 ?_
  refine gx_top (y := nI ((16 + (k * 6)) + i)) (nI_add (16 + (k * 6)) i) ?_
  refine gy_ild (i := ((16 + (k * 6)) + i)) hx hb hK hP 1 rfl (by omega) (by omega) dX7_rowInt_13 ?_
  exact gx_iret (w' := [(h0, .inr (7, [.ref a1])), (a1, .inl (cI, 34, .inl f))]) hx hb hr hlk hK hP hD hS (Nat.le_of_ble_eq_true rfl) (Nat.le_of_ble_eq_true rfl) dX7_rowInt_14 ⟨rfl, rfl⟩
def wsP_c_storedTo : List Cond := .code yX7_storedTo cX7_storedTo 2 (some .int) :: ([.fieldLink RX7 11 "LitmusHall$State" "words" "[I"] ++ wsX70)
set_option maxHeartbeats 4000000 in
set_option maxRecDepth 100000 in
theorem c_storedTo (l : Launch) (D : va_G) (cI cB cZ : ClassId) (h0 : Nat) (a1 : Nat) (f : Nat → Int32) (k : Nat) (hk : k < 3) : gMi l yX7_storedTo wsP_c_storedTo ({ frames := 0, cells := 0, slots := 0, locals := 0 }) D cI cB cZ [] [.ref h0, .int (nI k)] [(h0, .inr (7, [.ref a1])), (a1, .inl (cI, 34, .inl f))] (fun r9 w9 => ∃ j : Nat, (j < 16) ∧ r9 = (nI j) ∧ w9 = [(h0, .inr (7, [.ref a1])), (a1, .inl (cI, 34, .inl f))]) := by
  refine gMi.of (cc := cX7_storedTo) (maxL := 2) (ret := (some .int)) (by decide) rfl (Nat.le_of_ble_eq_true rfl) (fun p e s m below meth c A ls hx hb hr hlk hml hts hown hin hA hP hK hD hS hN hl => ?_)
  have hown : s.vm.findClass RX7 = some m.cls := hown
  have hl : lv_has ls 2 [(0, .ref h0), (1, .int (nI k))] := hl
  refine lv_aload_n hx hb dX7_storedTo_0 rfl (lv_at hl 0 rfl) ?_
  refine va_get (D := D) (ci := 7) (v := .ref a1) (C := RX7) (T := TX7) (N := 1) hx hb hts (fun _ h => List.mem_cons_of_mem _ (List.mem_append_right _ h)) hown hK hP 0 rfl rfl 0 (by decide) (hts (.fieldLink RX7 11 "LitmusHall$State" "words" "[I") (by decide +kernel)) (fun _ h9 => h9) rfl dX7_storedTo_1 ?_
  refine lv_bipush (v := 13) hx hb dX7_storedTo_4 (by decide) ?_
  refine lv_iload_n hx hb dX7_storedTo_6 rfl (lv_at hl 1 rfl) ?_
  refine lv_iadd hx hb dX7_storedTo_7 ?_
  refine gx_top (y := nI (13 + k)) (nI_add 13 k) ?_
  refine gy_ild (i := (13 + k)) hx hb hK hP 1 rfl (by omega) (by omega) dX7_storedTo_8 ?_
  refine lv_bipush (v := 19) hx hb dX7_storedTo_9 (by decide) ?_
  refine lv_ishr hx hb dX7_storedTo_11 ?_
  refine lv_bipush (v := 15) hx hb dX7_storedTo_12 (by decide) ?_
  refine lv_iand hx hb dX7_storedTo_14 ?_
  refine gx_top (pk_and ((f (13 + k)) >>> ((19 : Int32) &&& 31)) (m := 15) 4 (by decide +kernel)) ?_
  have hj1 : ((f (13 + k)) >>> ((19 : Int32) &&& 31)).toBitVec.toNat % 16 < 16 := Nat.mod_lt _ (by decide)
  exact gx_iret (w' := [(h0, .inr (7, [.ref a1])), (a1, .inl (cI, 34, .inl f))]) hx hb hr hlk hK hP hD hS (Nat.le_of_ble_eq_true rfl) (Nat.le_of_ble_eq_true rfl) dX7_storedTo_15 ⟨(((f (13 + k)) >>> ((19 : Int32) &&& 31)).toBitVec.toNat % 16), (by omega), rfl, rfl⟩
