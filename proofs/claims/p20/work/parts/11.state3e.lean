theorem dX7_can_0 : decode cX7_can 0 = .ok (.iload_n 2, 1) := by decide +kernel
theorem dX7_can_1 : decode cX7_can 1 = .ok (.iconst 3, 1) := by decide +kernel
theorem dX7_can_11 : decode cX7_can 11 = .ok (.aload_n 0, 1) := by decide +kernel
theorem dX7_can_12 : decode cX7_can 12 = .ok (.iload_n 2, 1) := by decide +kernel
theorem dX7_can_13 : decode cX7_can 13 = .ok (.iconst 3, 1) := by decide +kernel
theorem dX7_can_14 : decode cX7_can 14 = .ok (.isub, 1) := by decide +kernel
theorem dX7_can_15 : decode cX7_can 15 = .ok (.invokevirtual 39, 3) := by decide +kernel
theorem dX7_can_18 : decode cX7_can 18 = .ok (.ifCond .le 7, 3) := by decide +kernel
theorem dX7_can_2 : decode cX7_can 2 = .ok (.if_icmp .lt 25, 3) := by decide +kernel
theorem dX7_can_21 : decode cX7_can 21 = .ok (.iconst 1, 1) := by decide +kernel
theorem dX7_can_22 : decode cX7_can 22 = .ok (.goto 4, 3) := by decide +kernel
theorem dX7_can_25 : decode cX7_can 25 = .ok (.iconst 0, 1) := by decide +kernel
theorem dX7_can_26 : decode cX7_can 26 = .ok (.ireturn, 1) := by decide +kernel
theorem dX7_can_27 : decode cX7_can 27 = .ok (.iload_n 2, 1) := by decide +kernel
theorem dX7_can_28 : decode cX7_can 28 = .ok (.ifCond .lt 11, 3) := by decide +kernel
theorem dX7_can_31 : decode cX7_can 31 = .ok (.iload_n 2, 1) := by decide +kernel
theorem dX7_can_32 : decode cX7_can 32 = .ok (.aload_n 1, 1) := by decide +kernel
theorem dX7_can_33 : decode cX7_can 33 = .ok (.getfield 15, 3) := by decide +kernel
theorem dX7_can_36 : decode cX7_can 36 = .ok (.if_icmp .lt 5, 3) := by decide +kernel
theorem dX7_can_39 : decode cX7_can 39 = .ok (.iconst 0, 1) := by decide +kernel
theorem dX7_can_40 : decode cX7_can 40 = .ok (.ireturn, 1) := by decide +kernel
theorem dX7_can_41 : decode cX7_can 41 = .ok (.aload_n 0, 1) := by decide +kernel
theorem dX7_can_42 : decode cX7_can 42 = .ok (.iload_n 2, 1) := by decide +kernel
theorem dX7_can_43 : decode cX7_can 43 = .ok (.invokevirtual 43, 3) := by decide +kernel
theorem dX7_can_46 : decode cX7_can 46 = .ok (.istore_n 3, 1) := by decide +kernel
theorem dX7_can_47 : decode cX7_can 47 = .ok (.iload_n 3, 1) := by decide +kernel
theorem dX7_can_48 : decode cX7_can 48 = .ok (.aload_n 1, 1) := by decide +kernel
theorem dX7_can_49 : decode cX7_can 49 = .ok (.getfield 36, 3) := by decide +kernel
theorem dX7_can_5 : decode cX7_can 5 = .ok (.iload_n 2, 1) := by decide +kernel
theorem dX7_can_52 : decode cX7_can 52 = .ok (.iload_n 2, 1) := by decide +kernel
theorem dX7_can_53 : decode cX7_can 53 = .ok (.iaload, 1) := by decide +kernel
theorem dX7_can_54 : decode cX7_can 54 = .ok (.if_icmp .ge 28, 3) := by decide +kernel
theorem dX7_can_57 : decode cX7_can 57 = .ok (.aload_n 0, 1) := by decide +kernel
theorem dX7_can_58 : decode cX7_can 58 = .ok (.iload_n 2, 1) := by decide +kernel
theorem dX7_can_59 : decode cX7_can 59 = .ok (.invokevirtual 39, 3) := by decide +kernel
theorem dX7_can_6 : decode cX7_can 6 = .ok (.bipush 6, 2) := by decide +kernel
theorem dX7_can_62 : decode cX7_can 62 = .ok (.ifCond .eq 16, 3) := by decide +kernel
theorem dX7_can_65 : decode cX7_can 65 = .ok (.aload_n 1, 1) := by decide +kernel
theorem dX7_can_66 : decode cX7_can 66 = .ok (.iload_n 2, 1) := by decide +kernel
theorem dX7_can_67 : decode cX7_can 67 = .ok (.iload_n 3, 1) := by decide +kernel
theorem dX7_can_68 : decode cX7_can 68 = .ok (.iconst 0, 1) := by decide +kernel
theorem dX7_can_69 : decode cX7_can 69 = .ok (.invokevirtual 46, 3) := by decide +kernel
theorem dX7_can_72 : decode cX7_can 72 = .ok (.invokestatic 50, 3) := by decide +kernel
theorem dX7_can_75 : decode cX7_can 75 = .ok (.ifCond .ne 7, 3) := by decide +kernel
theorem dX7_can_78 : decode cX7_can 78 = .ok (.iconst 1, 1) := by decide +kernel
theorem dX7_can_79 : decode cX7_can 79 = .ok (.goto 4, 3) := by decide +kernel
theorem dX7_can_8 : decode cX7_can 8 = .ok (.if_icmp .ge 19, 3) := by decide +kernel
theorem dX7_can_82 : decode cX7_can 82 = .ok (.iconst 0, 1) := by decide +kernel
theorem dX7_can_83 : decode cX7_can 83 = .ok (.ireturn, 1) := by decide +kernel
def wsP_c_can : List Cond := .code yX7_can cX7_can 4 (some .boolean) :: ([.fieldLink RX7 15 "LitmusHall$Program" "cores" "I", .methodLink RX7 43 yX7_nextOf, .instanceMethod yX7_nextOf, .selects RX7 yX7_nextOf yX7_nextOf, .initialized RX7, .fieldLink RX7 11 "LitmusHall$State" "words" "[I", .code yX7_nextOf cX7_nextOf 2 (some .int), .fieldLink RX7 36 "LitmusHall$Program" "lengths" "[I", .methodLink RX7 39 yX7_rowSize, .instanceMethod yX7_rowSize, .selects RX7 yX7_rowSize yX7_rowSize, .code yX7_rowSize cX7_rowSize 2 (some .int), .methodLink RX7 46 yX4_part, .instanceMethod yX4_part, .selects RX4 yX4_part yX4_part, .initialized RX4, .fieldLink RX4 18 "LitmusHall$Program" "parts" "[I", .methodLink RX4 31 yX4_partsAt, .static yX4_partsAt, .code yX4_partsAt cX4_partsAt 2 (some .int), .code yX4_part cX4_part 4 (some .int), .methodLink RX7 50 yX7_waits, .static yX7_waits, .methodLink RX7 54 yX7_isLocked, .static yX7_isLocked, .code yX7_isLocked cX7_isLocked 1 (some .boolean), .code yX7_waits cX7_waits 1 (some .boolean)] ++ wsX40 ++ wsX70)
set_option maxRecDepth 20000 in
theorem gP_c_can__c_nextOf : GoodIn wsP_c_can (wsV RX7 43 RX7 yX7_nextOf wsP_c_nextOf) := goodIn_r _ [2, 3, 4, 5, 7, 6, 32] (by decide +kernel) (by decide +kernel)
set_option maxRecDepth 20000 in
theorem gP_c_can__c_rowSize : GoodIn wsP_c_can (wsV RX7 39 RX7 yX7_rowSize wsP_c_rowSize) := goodIn_r _ [9, 10, 11, 5, 12, 6, 32] (by decide +kernel) (by decide +kernel)
set_option maxRecDepth 20000 in
theorem gP_c_can__c_part : GoodIn wsP_c_can (wsV RX7 46 RX4 yX4_part wsP_c_part) := goodIn_r _ [13, 14, 15, 16, 21, 17, 18, 19, 16, 20, 28, 29, 30, 31] (by decide +kernel) (by decide +kernel)
set_option maxRecDepth 20000 in
theorem gP_c_can__c_waits : GoodIn wsP_c_can (va_wsS RX7 50 yX7_waits wsP_c_waits) := goodIn_r _ [22, 23, 5, 27, 24, 25, 5, 26] (by decide +kernel) (by decide +kernel)
set_option maxHeartbeats 4000000 in
set_option maxRecDepth 100000 in
theorem c_can (l : Launch) (D : va_G) (cI cB cZ : ClassId) (h0 : Nat) (a1 : Nat) (f : Nat → Int32) (p0 : Nat) (b1 : Nat) (b3 : Nat) (v2 : Value) (nc : Nat) (L : Nat → Nat) (pf : Nat → Int32) (x : Int32) (hc : nc ≤ 3) (hL : ∀ k, k < 3 → L k ≤ 8) : gMi l yX7_can wsP_c_can ({ frames := 2, cells := 0, slots := 0, locals := 44 }) D cI cB cZ [] [.ref h0, .ref p0, .int x] [(h0, .inr (7, [.ref a1])), (a1, .inl (cI, 34, .inl f)), (p0, .inr (4, [.int (nI nc), .ref b1, v2, .ref b3])), (b1, .inl (cI, 3, .inl (fun j => nI (L j)))), (b3, .inl (cI, 192, .inl pf))] (fun r9 w9 => ∃ z : Int32, (z = 0 ∨ (z = 1 ∧ gCan f L nc x)) ∧ r9 = z ∧ w9 = [(h0, .inr (7, [.ref a1])), (a1, .inl (cI, 34, .inl f)), (p0, .inr (4, [.int (nI nc), .ref b1, v2, .ref b3])), (b1, .inl (cI, 3, .inl (fun j => nI (L j)))), (b3, .inl (cI, 192, .inl pf))]) := by
  refine gMi.of (cc := cX7_can) (maxL := 4) (ret := (some .boolean)) (by decide) rfl (Nat.le_of_ble_eq_true rfl) (fun p e s m below meth c A ls hx hb hr hlk hml hts hown hin hA hP hK hD hS hN hl => ?_)
  have hown : s.vm.findClass RX7 = some m.cls := hown
  have hl : lv_has ls 4 [(0, .ref h0), (1, .ref p0), (2, .int x)] := hl
  refine lv_iload_n hx hb dX7_can_0 rfl (lv_at hl 2 rfl) ?_
  refine lv_iconst (v := 3) hx hb dX7_can_1 (by decide) ?_
  refine lv_icmp_lt (tgt := 27) hx hb dX7_can_2 (by decide) (fun c_1 => ?_) (fun c_1 => ?_)
  · refine lv_iload_n hx hb dX7_can_27 rfl (lv_at hl 2 rfl) ?_
    refine lv_if_lt (tgt := 39) hx hb dX7_can_28 (by decide) (fun c_2 => ?_) (fun c_2 => ?_)
    · refine lv_iconst (v := 0) hx hb dX7_can_39 (by decide) ?_
      exact gx_zret (w' := [(h0, .inr (7, [.ref a1])), (a1, .inl (cI, 34, .inl f)), (p0, .inr (4, [.int (nI nc), .ref b1, v2, .ref b3])), (b1, .inl (cI, 3, .inl (fun j => nI (L j)))), (b3, .inl (cI, 192, .inl pf))]) hx hb hr hlk hK hP hD hS (Nat.le_of_ble_eq_true rfl) (Nat.le_of_ble_eq_true rfl) dX7_can_40 rfl ⟨0, (Or.inl rfl), rfl, rfl⟩
    · refine lv_iload_n hx hb dX7_can_31 rfl (lv_at hl 2 rfl) ?_
      refine lv_aload_n hx hb dX7_can_32 rfl (lv_at hl 1 rfl) ?_
      refine va_get (D := D) (ci := 4) (v := .int (nI nc)) (C := RX4) (T := TX4) (N := 4) hx hb hts (fun _ h => List.mem_cons_of_mem _ (List.mem_append_left _ (List.mem_append_right _ h))) hown hK hP 2 rfl rfl 0 (by decide) (hts (.fieldLink RX7 15 "LitmusHall$Program" "cores" "I") (by decide +kernel)) (fun _ h9 => h9) rfl dX7_can_33 ?_
      refine lv_icmp_lt (tgt := 41) hx hb dX7_can_36 (by decide) (fun c_3 => ?_) (fun c_3 => ?_)
      · obtain ⟨k, hk, rfl⟩ := gy_inc (c := nc) (by omega) c_2 c_3
        have hl : lv_has ls 4 [(0, .ref h0), (1, .ref p0), (2, .int (nI k))] := hl
        refine lv_aload_n hx hb dX7_can_41 rfl (lv_at hl 0 rfl) ?_
        refine lv_iload_n hx hb dX7_can_42 rfl (lv_at hl 2 rfl) ?_
        refine gx_goi (wc := [(h0, .inr (7, [.ref a1])), (a1, .inl (cI, 34, .inl f))]) (wr := [(p0, .inr (4, [.int (nI nc), .ref b1, v2, .ref b3])), (b1, .inl (cI, 3, .inl (fun j => nI (L j)))), (b3, .inl (cI, 192, .inl pf))]) (va_runV (As := [.int (nI k)]) (rest := []) ⟨hx, hb, hml, hown, hts⟩ (c_nextOf l D cI cB cZ h0 a1 f k (by omega) _) (cwV 1 hts gP_c_can__c_nextOf rfl rfl rfl (by decide +kernel) ⟨Nat.le_of_ble_eq_true rfl, Nat.le_of_ble_eq_true rfl⟩) (gx_preV (ci := 7) (q0 := 0) hK gN.nil hP hD [0, 1] rfl rfl rfl rfl) rfl rfl hl.1 rfl (lv_room (Nat.le_of_ble_eq_true rfl)) dX7_can_43 ⟨Nat.le_of_ble_eq_true rfl, Nat.le_of_ble_eq_true rfl⟩) hP hD hS hA [0, 1] [2, 3, 4] rfl rfl rfl (by decide) (fun r1 w1 H locs hp hP hD hS => ?_)
        obtain ⟨h9, rfl⟩ := hp
        have h9 := h9.symm
        subst h9
        have hP : va_P D vwCl [(p0, .inr (4, [.int (nI nc), .ref b1, v2, .ref b3])), (b1, .inl (cI, 3, .inl (fun j => nI (L j)))), (b3, .inl (cI, 192, .inl pf)), (h0, .inr (7, [.ref a1])), (a1, .inl (cI, 34, .inl f))] H := hP
        have hD : va_D A [(p0, .inr (4, [.int (nI nc), .ref b1, v2, .ref b3])), (b1, .inl (cI, 3, .inl (fun j => nI (L j)))), (b3, .inl (cI, 192, .inl pf)), (h0, .inr (7, [.ref a1])), (a1, .inl (cI, 34, .inl f))] := hD
        have hnx := gNx_lt (f (13 + k))
        refine lv_istore_n (lv' := [(3, .int (nI (gNx (f (13 + k))))), (0, .ref h0), (1, .ref p0), (2, .int (nI k))]) hx hb dX7_can_46 rfl hl (by decide) rfl (fun ls hl => ?_)
        refine lv_iload_n hx hb dX7_can_47 rfl (lv_at hl 0 rfl) ?_
        refine lv_aload_n hx hb dX7_can_48 rfl (lv_at hl 2 rfl) ?_
        refine va_get (D := D) (ci := 4) (v := .ref b1) (C := RX4) (T := TX4) (N := 4) hx hb hts (fun _ h => List.mem_cons_of_mem _ (List.mem_append_left _ (List.mem_append_right _ h))) hown hK hP 0 rfl rfl 1 (by decide) (hts (.fieldLink RX7 36 "LitmusHall$Program" "lengths" "[I") (by decide +kernel)) (fun _ h9 => h9) rfl dX7_can_49 ?_
        refine lv_iload_n hx hb dX7_can_52 rfl (lv_at hl 3 rfl) ?_
        refine gy_ild (i := k) hx hb hK hP 1 rfl (by omega) (by omega) dX7_can_53 ?_
        refine gx_top (y := nI (L k)) rfl ?_
        have hL0 := hL k (by omega)
        refine gy_ge (a := (gNx (f (13 + k)))) (b := (L k)) (tgt := 82) hx hb (by omega) (by omega) dX7_can_54 (by decide) (fun c_4 => ?_) (fun c_4 => ?_)
        · refine lv_iconst (v := 0) hx hb dX7_can_82 (by decide) ?_
          have hP := hP.sub (ws' := [(h0, .inr (7, [.ref a1])), (a1, .inl (cI, 34, .inl f)), (p0, .inr (4, [.int (nI nc), .ref b1, v2, .ref b3])), (b1, .inl (cI, 3, .inl (fun j => nI (L j)))), (b3, .inl (cI, 192, .inl pf))]) [3, 4, 0, 1, 2] rfl
          have hD := hD.sub (ws' := [(h0, .inr (7, [.ref a1])), (a1, .inl (cI, 34, .inl f)), (p0, .inr (4, [.int (nI nc), .ref b1, v2, .ref b3])), (b1, .inl (cI, 3, .inl (fun j => nI (L j)))), (b3, .inl (cI, 192, .inl pf))]) [3, 4, 0, 1, 2] (by decide) rfl
          exact gx_zret (w' := [(h0, .inr (7, [.ref a1])), (a1, .inl (cI, 34, .inl f)), (p0, .inr (4, [.int (nI nc), .ref b1, v2, .ref b3])), (b1, .inl (cI, 3, .inl (fun j => nI (L j)))), (b3, .inl (cI, 192, .inl pf))]) hx hb hr hlk hK hP hD hS (Nat.le_of_ble_eq_true rfl) (Nat.le_of_ble_eq_true rfl) dX7_can_83 rfl ⟨0, (by first | exact Or.inl rfl | exact Or.inr ⟨rfl, Or.inr ⟨k, hk, rfl, hnl⟩⟩), rfl, rfl⟩
        · have hnl := c_4
          refine lv_aload_n hx hb dX7_can_57 rfl (lv_at hl 1 rfl) ?_
          refine lv_iload_n hx hb dX7_can_58 rfl (lv_at hl 3 rfl) ?_
          refine gx_goi (wc := [(h0, .inr (7, [.ref a1])), (a1, .inl (cI, 34, .inl f))]) (wr := [(p0, .inr (4, [.int (nI nc), .ref b1, v2, .ref b3])), (b1, .inl (cI, 3, .inl (fun j => nI (L j)))), (b3, .inl (cI, 192, .inl pf))]) (va_runV (As := [.int (nI k)]) (rest := []) ⟨hx, hb, hml, hown, hts⟩ (c_rowSize l D cI cB cZ h0 a1 f k (by omega) _) (cwV 1 hts gP_c_can__c_rowSize rfl rfl rfl (by decide +kernel) ⟨Nat.le_of_ble_eq_true rfl, Nat.le_of_ble_eq_true rfl⟩) (gx_preV (ci := 7) (q0 := 0) hK gN.nil hP hD [3, 4] rfl rfl rfl rfl) rfl rfl hl.1 rfl (lv_room (Nat.le_of_ble_eq_true rfl)) dX7_can_59 ⟨Nat.le_of_ble_eq_true rfl, Nat.le_of_ble_eq_true rfl⟩) hP hD hS hA [3, 4] [0, 1, 2] rfl rfl rfl (by decide) (fun r1 w1 H locs hp hP hD hS => ?_)
          obtain ⟨h9, rfl⟩ := hp
          have h9 := h9.symm
          subst h9
          have hP : va_P D vwCl [(p0, .inr (4, [.int (nI nc), .ref b1, v2, .ref b3])), (b1, .inl (cI, 3, .inl (fun j => nI (L j)))), (b3, .inl (cI, 192, .inl pf)), (h0, .inr (7, [.ref a1])), (a1, .inl (cI, 34, .inl f))] H := hP
          have hD : va_D A [(p0, .inr (4, [.int (nI nc), .ref b1, v2, .ref b3])), (b1, .inl (cI, 3, .inl (fun j => nI (L j)))), (b3, .inl (cI, 192, .inl pf)), (h0, .inr (7, [.ref a1])), (a1, .inl (cI, 34, .inl f))] := hD
          have hsz := gSz_lt (f (13 + k))
          refine lv_if_eq (tgt := 78) hx hb dX7_can_62 (by decide) (fun c_5i => ?_) (fun c_5i => ?_)
          · have c_5 : gSz (f (13 + k)) = 0 := (nI_eq (a := gSz (f (13 + k))) (b := 0) (by omega) (by decide)).mp c_5i
            refine lv_iconst (v := 1) hx hb dX7_can_78 (by decide) ?_
            refine lv_goto (tgt := 83) hx hb dX7_can_79 (by decide) ?_
            have hP := hP.sub (ws' := [(h0, .inr (7, [.ref a1])), (a1, .inl (cI, 34, .inl f)), (p0, .inr (4, [.int (nI nc), .ref b1, v2, .ref b3])), (b1, .inl (cI, 3, .inl (fun j => nI (L j)))), (b3, .inl (cI, 192, .inl pf))]) [3, 4, 0, 1, 2] rfl
            have hD := hD.sub (ws' := [(h0, .inr (7, [.ref a1])), (a1, .inl (cI, 34, .inl f)), (p0, .inr (4, [.int (nI nc), .ref b1, v2, .ref b3])), (b1, .inl (cI, 3, .inl (fun j => nI (L j)))), (b3, .inl (cI, 192, .inl pf))]) [3, 4, 0, 1, 2] (by decide) rfl
            exact gx_zret (w' := [(h0, .inr (7, [.ref a1])), (a1, .inl (cI, 34, .inl f)), (p0, .inr (4, [.int (nI nc), .ref b1, v2, .ref b3])), (b1, .inl (cI, 3, .inl (fun j => nI (L j)))), (b3, .inl (cI, 192, .inl pf))]) hx hb hr hlk hK hP hD hS (Nat.le_of_ble_eq_true rfl) (Nat.le_of_ble_eq_true rfl) dX7_can_83 rfl ⟨1, (by first | exact Or.inl rfl | exact Or.inr ⟨rfl, Or.inr ⟨k, hk, rfl, hnl⟩⟩), rfl, rfl⟩
          · have c_5 : gSz (f (13 + k)) ≠ 0 := fun q9 => c_5i ((nI_eq (a := gSz (f (13 + k))) (b := 0) (by omega) (by decide)).mpr q9)
            refine lv_aload_n hx hb dX7_can_65 rfl (lv_at hl 2 rfl) ?_
            refine lv_iload_n hx hb dX7_can_66 rfl (lv_at hl 3 rfl) ?_
            refine lv_iload_n hx hb dX7_can_67 rfl (lv_at hl 0 rfl) ?_
            refine lv_iconst (v := 0) hx hb dX7_can_68 (by decide) ?_
            refine gx_goi (wc := [(p0, .inr (4, [.int (nI nc), .ref b1, v2, .ref b3])), (b3, .inl (cI, 192, .inl pf))]) (wr := [(b1, .inl (cI, 3, .inl (fun j => nI (L j)))), (h0, .inr (7, [.ref a1])), (a1, .inl (cI, 34, .inl f))]) (va_runV (As := [.int (nI k), .int (nI (gNx (f (13 + k)))), .int 0]) (rest := []) ⟨hx, hb, hml, hown, hts⟩ (c_part l D cI cB cZ p0 b3 (.int (nI nc)) (.ref b1) (v2) pf k (gNx (f (13 + k))) 0 (by omega) (by omega) (by omega) _) (cwV 3 hts gP_c_can__c_part rfl rfl rfl (by decide +kernel) ⟨Nat.le_of_ble_eq_true rfl, Nat.le_of_ble_eq_true rfl⟩) (gx_preV (ci := 4) (q0 := 0) hK gN.nil hP hD [0, 2] rfl rfl rfl rfl) rfl rfl hl.1 rfl (lv_room (Nat.le_of_ble_eq_true rfl)) dX7_can_69 ⟨Nat.le_of_ble_eq_true rfl, Nat.le_of_ble_eq_true rfl⟩) hP hD hS hA [0, 2] [1, 3, 4] rfl rfl rfl (by decide) (fun r1 w1 H locs hp hP hD hS => ?_)
            obtain ⟨h9, rfl⟩ := hp
            have h9 := h9.symm
            subst h9
            have hP : va_P D vwCl [(b1, .inl (cI, 3, .inl (fun j => nI (L j)))), (h0, .inr (7, [.ref a1])), (a1, .inl (cI, 34, .inl f)), (p0, .inr (4, [.int (nI nc), .ref b1, v2, .ref b3])), (b3, .inl (cI, 192, .inl pf))] H := hP
            have hD : va_D A [(b1, .inl (cI, 3, .inl (fun j => nI (L j)))), (h0, .inr (7, [.ref a1])), (a1, .inl (cI, 34, .inl f)), (p0, .inr (4, [.int (nI nc), .ref b1, v2, .ref b3])), (b3, .inl (cI, 192, .inl pf))] := hD
            refine gx_goi (wc := []) (wr := [(b1, .inl (cI, 3, .inl (fun j => nI (L j)))), (h0, .inr (7, [.ref a1])), (a1, .inl (cI, 34, .inl f)), (p0, .inr (4, [.int (nI nc), .ref b1, v2, .ref b3])), (b3, .inl (cI, 192, .inl pf))]) (va_runS (As := [.int (pf ((((k * 8) + (gNx (f (13 + k)))) * 8) + 0))]) (rest := []) ⟨hx, hb, hml, hown, hts⟩ (c_waits l D cI cB cZ (pf ((((k * 8) + (gNx (f (13 + k)))) * 8) + 0)) _) (va_cwS 1 hts gP_c_can__c_waits rfl rfl rfl (by decide +kernel) ⟨Nat.le_of_ble_eq_true rfl, Nat.le_of_ble_eq_true rfl⟩) (gx_preS hK gN.nil hP hD [] rfl rfl) rfl rfl hl.1 rfl (lv_room (Nat.le_of_ble_eq_true rfl)) dX7_can_72 ⟨Nat.le_of_ble_eq_true rfl, Nat.le_of_ble_eq_true rfl⟩) hP hD hS hA [] [0, 1, 2, 3, 4] rfl rfl rfl (by decide) (fun r1 w1 H locs hp hP hD hS => ?_)
            obtain ⟨e_6, hq_7, h9, rfl⟩ := hp
            have h9 := h9.symm
            subst h9
            have hq_7 : e_6 = 0 ∨ e_6 = 1 := hq_7
            have hP : va_P D vwCl [(b1, .inl (cI, 3, .inl (fun j => nI (L j)))), (h0, .inr (7, [.ref a1])), (a1, .inl (cI, 34, .inl f)), (p0, .inr (4, [.int (nI nc), .ref b1, v2, .ref b3])), (b3, .inl (cI, 192, .inl pf))] H := hP
            have hD : va_D A [(b1, .inl (cI, 3, .inl (fun j => nI (L j)))), (h0, .inr (7, [.ref a1])), (a1, .inl (cI, 34, .inl f)), (p0, .inr (4, [.int (nI nc), .ref b1, v2, .ref b3])), (b3, .inl (cI, 192, .inl pf))] := hD
            refine lv_if_ne (tgt := 82) hx hb dX7_can_75 (by decide) (fun c_8 => ?_) (fun c_8 => ?_)
            · refine lv_iconst (v := 0) hx hb dX7_can_82 (by decide) ?_
              have hP := hP.sub (ws' := [(h0, .inr (7, [.ref a1])), (a1, .inl (cI, 34, .inl f)), (p0, .inr (4, [.int (nI nc), .ref b1, v2, .ref b3])), (b1, .inl (cI, 3, .inl (fun j => nI (L j)))), (b3, .inl (cI, 192, .inl pf))]) [1, 2, 3, 0, 4] rfl
              have hD := hD.sub (ws' := [(h0, .inr (7, [.ref a1])), (a1, .inl (cI, 34, .inl f)), (p0, .inr (4, [.int (nI nc), .ref b1, v2, .ref b3])), (b1, .inl (cI, 3, .inl (fun j => nI (L j)))), (b3, .inl (cI, 192, .inl pf))]) [1, 2, 3, 0, 4] (by decide) rfl
              exact gx_zret (w' := [(h0, .inr (7, [.ref a1])), (a1, .inl (cI, 34, .inl f)), (p0, .inr (4, [.int (nI nc), .ref b1, v2, .ref b3])), (b1, .inl (cI, 3, .inl (fun j => nI (L j)))), (b3, .inl (cI, 192, .inl pf))]) hx hb hr hlk hK hP hD hS (Nat.le_of_ble_eq_true rfl) (Nat.le_of_ble_eq_true rfl) dX7_can_83 rfl ⟨0, (by first | exact Or.inl rfl | exact Or.inr ⟨rfl, Or.inr ⟨k, hk, rfl, hnl⟩⟩), rfl, rfl⟩
            · refine lv_iconst (v := 1) hx hb dX7_can_78 (by decide) ?_
              refine lv_goto (tgt := 83) hx hb dX7_can_79 (by decide) ?_
              have hP := hP.sub (ws' := [(h0, .inr (7, [.ref a1])), (a1, .inl (cI, 34, .inl f)), (p0, .inr (4, [.int (nI nc), .ref b1, v2, .ref b3])), (b1, .inl (cI, 3, .inl (fun j => nI (L j)))), (b3, .inl (cI, 192, .inl pf))]) [1, 2, 3, 0, 4] rfl
              have hD := hD.sub (ws' := [(h0, .inr (7, [.ref a1])), (a1, .inl (cI, 34, .inl f)), (p0, .inr (4, [.int (nI nc), .ref b1, v2, .ref b3])), (b1, .inl (cI, 3, .inl (fun j => nI (L j)))), (b3, .inl (cI, 192, .inl pf))]) [1, 2, 3, 0, 4] (by decide) rfl
              exact gx_zret (w' := [(h0, .inr (7, [.ref a1])), (a1, .inl (cI, 34, .inl f)), (p0, .inr (4, [.int (nI nc), .ref b1, v2, .ref b3])), (b1, .inl (cI, 3, .inl (fun j => nI (L j)))), (b3, .inl (cI, 192, .inl pf))]) hx hb hr hlk hK hP hD hS (Nat.le_of_ble_eq_true rfl) (Nat.le_of_ble_eq_true rfl) dX7_can_83 rfl ⟨1, (by first | exact Or.inl rfl | exact Or.inr ⟨rfl, Or.inr ⟨k, hk, rfl, hnl⟩⟩), rfl, rfl⟩
      · refine lv_iconst (v := 0) hx hb dX7_can_39 (by decide) ?_
        exact gx_zret (w' := [(h0, .inr (7, [.ref a1])), (a1, .inl (cI, 34, .inl f)), (p0, .inr (4, [.int (nI nc), .ref b1, v2, .ref b3])), (b1, .inl (cI, 3, .inl (fun j => nI (L j)))), (b3, .inl (cI, 192, .inl pf))]) hx hb hr hlk hK hP hD hS (Nat.le_of_ble_eq_true rfl) (Nat.le_of_ble_eq_true rfl) dX7_can_40 rfl ⟨0, (Or.inl rfl), rfl, rfl⟩
  · refine lv_iload_n hx hb dX7_can_5 rfl (lv_at hl 2 rfl) ?_
    refine lv_bipush (v := 6) hx hb dX7_can_6 (by decide) ?_
    refine lv_icmp_ge (tgt := 27) hx hb dX7_can_8 (by decide) (fun c_9 => ?_) (fun c_9 => ?_)
    · refine lv_iload_n hx hb dX7_can_27 rfl (lv_at hl 2 rfl) ?_
      refine lv_if_lt (tgt := 39) hx hb dX7_can_28 (by decide) (fun c_10 => ?_) (fun c_10 => ?_)
      · refine lv_iconst (v := 0) hx hb dX7_can_39 (by decide) ?_
        exact gx_zret (w' := [(h0, .inr (7, [.ref a1])), (a1, .inl (cI, 34, .inl f)), (p0, .inr (4, [.int (nI nc), .ref b1, v2, .ref b3])), (b1, .inl (cI, 3, .inl (fun j => nI (L j)))), (b3, .inl (cI, 192, .inl pf))]) hx hb hr hlk hK hP hD hS (Nat.le_of_ble_eq_true rfl) (Nat.le_of_ble_eq_true rfl) dX7_can_40 rfl ⟨0, (Or.inl rfl), rfl, rfl⟩
      · refine lv_iload_n hx hb dX7_can_31 rfl (lv_at hl 2 rfl) ?_
        refine lv_aload_n hx hb dX7_can_32 rfl (lv_at hl 1 rfl) ?_
        refine va_get (D := D) (ci := 4) (v := .int (nI nc)) (C := RX4) (T := TX4) (N := 4) hx hb hts (fun _ h => List.mem_cons_of_mem _ (List.mem_append_left _ (List.mem_append_right _ h))) hown hK hP 2 rfl rfl 0 (by decide) (hts (.fieldLink RX7 15 "LitmusHall$Program" "cores" "I") (by decide +kernel)) (fun _ h9 => h9) rfl dX7_can_33 ?_
        refine lv_icmp_lt (tgt := 41) hx hb dX7_can_36 (by decide) (fun c_11 => ?_) (fun c_11 => ?_)
        · obtain ⟨k, hk, rfl⟩ := gy_inc (c := nc) (by omega) c_10 c_11
          have hl : lv_has ls 4 [(0, .ref h0), (1, .ref p0), (2, .int (nI k))] := hl
          refine lv_aload_n hx hb dX7_can_41 rfl (lv_at hl 0 rfl) ?_
          refine lv_iload_n hx hb dX7_can_42 rfl (lv_at hl 2 rfl) ?_
          refine gx_goi (wc := [(h0, .inr (7, [.ref a1])), (a1, .inl (cI, 34, .inl f))]) (wr := [(p0, .inr (4, [.int (nI nc), .ref b1, v2, .ref b3])), (b1, .inl (cI, 3, .inl (fun j => nI (L j)))), (b3, .inl (cI, 192, .inl pf))]) (va_runV (As := [.int (nI k)]) (rest := []) ⟨hx, hb, hml, hown, hts⟩ (c_nextOf l D cI cB cZ h0 a1 f k (by omega) _) (cwV 1 hts gP_c_can__c_nextOf rfl rfl rfl (by decide +kernel) ⟨Nat.le_of_ble_eq_true rfl, Nat.le_of_ble_eq_true rfl⟩) (gx_preV (ci := 7) (q0 := 0) hK gN.nil hP hD [0, 1] rfl rfl rfl rfl) rfl rfl hl.1 rfl (lv_room (Nat.le_of_ble_eq_true rfl)) dX7_can_43 ⟨Nat.le_of_ble_eq_true rfl, Nat.le_of_ble_eq_true rfl⟩) hP hD hS hA [0, 1] [2, 3, 4] rfl rfl rfl (by decide) (fun r1 w1 H locs hp hP hD hS => ?_)
          obtain ⟨h9, rfl⟩ := hp
          have h9 := h9.symm
          subst h9
          have hP : va_P D vwCl [(p0, .inr (4, [.int (nI nc), .ref b1, v2, .ref b3])), (b1, .inl (cI, 3, .inl (fun j => nI (L j)))), (b3, .inl (cI, 192, .inl pf)), (h0, .inr (7, [.ref a1])), (a1, .inl (cI, 34, .inl f))] H := hP
          have hD : va_D A [(p0, .inr (4, [.int (nI nc), .ref b1, v2, .ref b3])), (b1, .inl (cI, 3, .inl (fun j => nI (L j)))), (b3, .inl (cI, 192, .inl pf)), (h0, .inr (7, [.ref a1])), (a1, .inl (cI, 34, .inl f))] := hD
          have hnx := gNx_lt (f (13 + k))
          refine lv_istore_n (lv' := [(3, .int (nI (gNx (f (13 + k))))), (0, .ref h0), (1, .ref p0), (2, .int (nI k))]) hx hb dX7_can_46 rfl hl (by decide) rfl (fun ls hl => ?_)
          refine lv_iload_n hx hb dX7_can_47 rfl (lv_at hl 0 rfl) ?_
          refine lv_aload_n hx hb dX7_can_48 rfl (lv_at hl 2 rfl) ?_
          refine va_get (D := D) (ci := 4) (v := .ref b1) (C := RX4) (T := TX4) (N := 4) hx hb hts (fun _ h => List.mem_cons_of_mem _ (List.mem_append_left _ (List.mem_append_right _ h))) hown hK hP 0 rfl rfl 1 (by decide) (hts (.fieldLink RX7 36 "LitmusHall$Program" "lengths" "[I") (by decide +kernel)) (fun _ h9 => h9) rfl dX7_can_49 ?_
          refine lv_iload_n hx hb dX7_can_52 rfl (lv_at hl 3 rfl) ?_
          refine gy_ild (i := k) hx hb hK hP 1 rfl (by omega) (by omega) dX7_can_53 ?_
          refine gx_top (y := nI (L k)) rfl ?_
          have hL0 := hL k (by omega)
          refine gy_ge (a := (gNx (f (13 + k)))) (b := (L k)) (tgt := 82) hx hb (by omega) (by omega) dX7_can_54 (by decide) (fun c_12 => ?_) (fun c_12 => ?_)
          · refine lv_iconst (v := 0) hx hb dX7_can_82 (by decide) ?_
            have hP := hP.sub (ws' := [(h0, .inr (7, [.ref a1])), (a1, .inl (cI, 34, .inl f)), (p0, .inr (4, [.int (nI nc), .ref b1, v2, .ref b3])), (b1, .inl (cI, 3, .inl (fun j => nI (L j)))), (b3, .inl (cI, 192, .inl pf))]) [3, 4, 0, 1, 2] rfl
            have hD := hD.sub (ws' := [(h0, .inr (7, [.ref a1])), (a1, .inl (cI, 34, .inl f)), (p0, .inr (4, [.int (nI nc), .ref b1, v2, .ref b3])), (b1, .inl (cI, 3, .inl (fun j => nI (L j)))), (b3, .inl (cI, 192, .inl pf))]) [3, 4, 0, 1, 2] (by decide) rfl
            exact gx_zret (w' := [(h0, .inr (7, [.ref a1])), (a1, .inl (cI, 34, .inl f)), (p0, .inr (4, [.int (nI nc), .ref b1, v2, .ref b3])), (b1, .inl (cI, 3, .inl (fun j => nI (L j)))), (b3, .inl (cI, 192, .inl pf))]) hx hb hr hlk hK hP hD hS (Nat.le_of_ble_eq_true rfl) (Nat.le_of_ble_eq_true rfl) dX7_can_83 rfl ⟨0, (by first | exact Or.inl rfl | exact Or.inr ⟨rfl, Or.inr ⟨k, hk, rfl, hnl⟩⟩), rfl, rfl⟩
          · have hnl := c_12
            refine lv_aload_n hx hb dX7_can_57 rfl (lv_at hl 1 rfl) ?_
            refine lv_iload_n hx hb dX7_can_58 rfl (lv_at hl 3 rfl) ?_
            refine gx_goi (wc := [(h0, .inr (7, [.ref a1])), (a1, .inl (cI, 34, .inl f))]) (wr := [(p0, .inr (4, [.int (nI nc), .ref b1, v2, .ref b3])), (b1, .inl (cI, 3, .inl (fun j => nI (L j)))), (b3, .inl (cI, 192, .inl pf))]) (va_runV (As := [.int (nI k)]) (rest := []) ⟨hx, hb, hml, hown, hts⟩ (c_rowSize l D cI cB cZ h0 a1 f k (by omega) _) (cwV 1 hts gP_c_can__c_rowSize rfl rfl rfl (by decide +kernel) ⟨Nat.le_of_ble_eq_true rfl, Nat.le_of_ble_eq_true rfl⟩) (gx_preV (ci := 7) (q0 := 0) hK gN.nil hP hD [3, 4] rfl rfl rfl rfl) rfl rfl hl.1 rfl (lv_room (Nat.le_of_ble_eq_true rfl)) dX7_can_59 ⟨Nat.le_of_ble_eq_true rfl, Nat.le_of_ble_eq_true rfl⟩) hP hD hS hA [3, 4] [0, 1, 2] rfl rfl rfl (by decide) (fun r1 w1 H locs hp hP hD hS => ?_)
            obtain ⟨h9, rfl⟩ := hp
            have h9 := h9.symm
            subst h9
            have hP : va_P D vwCl [(p0, .inr (4, [.int (nI nc), .ref b1, v2, .ref b3])), (b1, .inl (cI, 3, .inl (fun j => nI (L j)))), (b3, .inl (cI, 192, .inl pf)), (h0, .inr (7, [.ref a1])), (a1, .inl (cI, 34, .inl f))] H := hP
            have hD : va_D A [(p0, .inr (4, [.int (nI nc), .ref b1, v2, .ref b3])), (b1, .inl (cI, 3, .inl (fun j => nI (L j)))), (b3, .inl (cI, 192, .inl pf)), (h0, .inr (7, [.ref a1])), (a1, .inl (cI, 34, .inl f))] := hD
            have hsz := gSz_lt (f (13 + k))
            refine lv_if_eq (tgt := 78) hx hb dX7_can_62 (by decide) (fun c_13i => ?_) (fun c_13i => ?_)
            · have c_13 : gSz (f (13 + k)) = 0 := (nI_eq (a := gSz (f (13 + k))) (b := 0) (by omega) (by decide)).mp c_13i
              refine lv_iconst (v := 1) hx hb dX7_can_78 (by decide) ?_
              refine lv_goto (tgt := 83) hx hb dX7_can_79 (by decide) ?_
              have hP := hP.sub (ws' := [(h0, .inr (7, [.ref a1])), (a1, .inl (cI, 34, .inl f)), (p0, .inr (4, [.int (nI nc), .ref b1, v2, .ref b3])), (b1, .inl (cI, 3, .inl (fun j => nI (L j)))), (b3, .inl (cI, 192, .inl pf))]) [3, 4, 0, 1, 2] rfl
              have hD := hD.sub (ws' := [(h0, .inr (7, [.ref a1])), (a1, .inl (cI, 34, .inl f)), (p0, .inr (4, [.int (nI nc), .ref b1, v2, .ref b3])), (b1, .inl (cI, 3, .inl (fun j => nI (L j)))), (b3, .inl (cI, 192, .inl pf))]) [3, 4, 0, 1, 2] (by decide) rfl
              exact gx_zret (w' := [(h0, .inr (7, [.ref a1])), (a1, .inl (cI, 34, .inl f)), (p0, .inr (4, [.int (nI nc), .ref b1, v2, .ref b3])), (b1, .inl (cI, 3, .inl (fun j => nI (L j)))), (b3, .inl (cI, 192, .inl pf))]) hx hb hr hlk hK hP hD hS (Nat.le_of_ble_eq_true rfl) (Nat.le_of_ble_eq_true rfl) dX7_can_83 rfl ⟨1, (by first | exact Or.inl rfl | exact Or.inr ⟨rfl, Or.inr ⟨k, hk, rfl, hnl⟩⟩), rfl, rfl⟩
            · have c_13 : gSz (f (13 + k)) ≠ 0 := fun q9 => c_13i ((nI_eq (a := gSz (f (13 + k))) (b := 0) (by omega) (by decide)).mpr q9)
              refine lv_aload_n hx hb dX7_can_65 rfl (lv_at hl 2 rfl) ?_
              refine lv_iload_n hx hb dX7_can_66 rfl (lv_at hl 3 rfl) ?_
              refine lv_iload_n hx hb dX7_can_67 rfl (lv_at hl 0 rfl) ?_
              refine lv_iconst (v := 0) hx hb dX7_can_68 (by decide) ?_
              refine gx_goi (wc := [(p0, .inr (4, [.int (nI nc), .ref b1, v2, .ref b3])), (b3, .inl (cI, 192, .inl pf))]) (wr := [(b1, .inl (cI, 3, .inl (fun j => nI (L j)))), (h0, .inr (7, [.ref a1])), (a1, .inl (cI, 34, .inl f))]) (va_runV (As := [.int (nI k), .int (nI (gNx (f (13 + k)))), .int 0]) (rest := []) ⟨hx, hb, hml, hown, hts⟩ (c_part l D cI cB cZ p0 b3 (.int (nI nc)) (.ref b1) (v2) pf k (gNx (f (13 + k))) 0 (by omega) (by omega) (by omega) _) (cwV 3 hts gP_c_can__c_part rfl rfl rfl (by decide +kernel) ⟨Nat.le_of_ble_eq_true rfl, Nat.le_of_ble_eq_true rfl⟩) (gx_preV (ci := 4) (q0 := 0) hK gN.nil hP hD [0, 2] rfl rfl rfl rfl) rfl rfl hl.1 rfl (lv_room (Nat.le_of_ble_eq_true rfl)) dX7_can_69 ⟨Nat.le_of_ble_eq_true rfl, Nat.le_of_ble_eq_true rfl⟩) hP hD hS hA [0, 2] [1, 3, 4] rfl rfl rfl (by decide) (fun r1 w1 H locs hp hP hD hS => ?_)
              obtain ⟨h9, rfl⟩ := hp
              have h9 := h9.symm
              subst h9
              have hP : va_P D vwCl [(b1, .inl (cI, 3, .inl (fun j => nI (L j)))), (h0, .inr (7, [.ref a1])), (a1, .inl (cI, 34, .inl f)), (p0, .inr (4, [.int (nI nc), .ref b1, v2, .ref b3])), (b3, .inl (cI, 192, .inl pf))] H := hP
              have hD : va_D A [(b1, .inl (cI, 3, .inl (fun j => nI (L j)))), (h0, .inr (7, [.ref a1])), (a1, .inl (cI, 34, .inl f)), (p0, .inr (4, [.int (nI nc), .ref b1, v2, .ref b3])), (b3, .inl (cI, 192, .inl pf))] := hD
              refine gx_goi (wc := []) (wr := [(b1, .inl (cI, 3, .inl (fun j => nI (L j)))), (h0, .inr (7, [.ref a1])), (a1, .inl (cI, 34, .inl f)), (p0, .inr (4, [.int (nI nc), .ref b1, v2, .ref b3])), (b3, .inl (cI, 192, .inl pf))]) (va_runS (As := [.int (pf ((((k * 8) + (gNx (f (13 + k)))) * 8) + 0))]) (rest := []) ⟨hx, hb, hml, hown, hts⟩ (c_waits l D cI cB cZ (pf ((((k * 8) + (gNx (f (13 + k)))) * 8) + 0)) _) (va_cwS 1 hts gP_c_can__c_waits rfl rfl rfl (by decide +kernel) ⟨Nat.le_of_ble_eq_true rfl, Nat.le_of_ble_eq_true rfl⟩) (gx_preS hK gN.nil hP hD [] rfl rfl) rfl rfl hl.1 rfl (lv_room (Nat.le_of_ble_eq_true rfl)) dX7_can_72 ⟨Nat.le_of_ble_eq_true rfl, Nat.le_of_ble_eq_true rfl⟩) hP hD hS hA [] [0, 1, 2, 3, 4] rfl rfl rfl (by decide) (fun r1 w1 H locs hp hP hD hS => ?_)
              obtain ⟨e_14, hq_15, h9, rfl⟩ := hp
              have h9 := h9.symm
              subst h9
              have hq_15 : e_14 = 0 ∨ e_14 = 1 := hq_15
              have hP : va_P D vwCl [(b1, .inl (cI, 3, .inl (fun j => nI (L j)))), (h0, .inr (7, [.ref a1])), (a1, .inl (cI, 34, .inl f)), (p0, .inr (4, [.int (nI nc), .ref b1, v2, .ref b3])), (b3, .inl (cI, 192, .inl pf))] H := hP
              have hD : va_D A [(b1, .inl (cI, 3, .inl (fun j => nI (L j)))), (h0, .inr (7, [.ref a1])), (a1, .inl (cI, 34, .inl f)), (p0, .inr (4, [.int (nI nc), .ref b1, v2, .ref b3])), (b3, .inl (cI, 192, .inl pf))] := hD
              refine lv_if_ne (tgt := 82) hx hb dX7_can_75 (by decide) (fun c_16 => ?_) (fun c_16 => ?_)
              · refine lv_iconst (v := 0) hx hb dX7_can_82 (by decide) ?_
                have hP := hP.sub (ws' := [(h0, .inr (7, [.ref a1])), (a1, .inl (cI, 34, .inl f)), (p0, .inr (4, [.int (nI nc), .ref b1, v2, .ref b3])), (b1, .inl (cI, 3, .inl (fun j => nI (L j)))), (b3, .inl (cI, 192, .inl pf))]) [1, 2, 3, 0, 4] rfl
                have hD := hD.sub (ws' := [(h0, .inr (7, [.ref a1])), (a1, .inl (cI, 34, .inl f)), (p0, .inr (4, [.int (nI nc), .ref b1, v2, .ref b3])), (b1, .inl (cI, 3, .inl (fun j => nI (L j)))), (b3, .inl (cI, 192, .inl pf))]) [1, 2, 3, 0, 4] (by decide) rfl
                exact gx_zret (w' := [(h0, .inr (7, [.ref a1])), (a1, .inl (cI, 34, .inl f)), (p0, .inr (4, [.int (nI nc), .ref b1, v2, .ref b3])), (b1, .inl (cI, 3, .inl (fun j => nI (L j)))), (b3, .inl (cI, 192, .inl pf))]) hx hb hr hlk hK hP hD hS (Nat.le_of_ble_eq_true rfl) (Nat.le_of_ble_eq_true rfl) dX7_can_83 rfl ⟨0, (by first | exact Or.inl rfl | exact Or.inr ⟨rfl, Or.inr ⟨k, hk, rfl, hnl⟩⟩), rfl, rfl⟩
              · refine lv_iconst (v := 1) hx hb dX7_can_78 (by decide) ?_
                refine lv_goto (tgt := 83) hx hb dX7_can_79 (by decide) ?_
                have hP := hP.sub (ws' := [(h0, .inr (7, [.ref a1])), (a1, .inl (cI, 34, .inl f)), (p0, .inr (4, [.int (nI nc), .ref b1, v2, .ref b3])), (b1, .inl (cI, 3, .inl (fun j => nI (L j)))), (b3, .inl (cI, 192, .inl pf))]) [1, 2, 3, 0, 4] rfl
                have hD := hD.sub (ws' := [(h0, .inr (7, [.ref a1])), (a1, .inl (cI, 34, .inl f)), (p0, .inr (4, [.int (nI nc), .ref b1, v2, .ref b3])), (b1, .inl (cI, 3, .inl (fun j => nI (L j)))), (b3, .inl (cI, 192, .inl pf))]) [1, 2, 3, 0, 4] (by decide) rfl
                exact gx_zret (w' := [(h0, .inr (7, [.ref a1])), (a1, .inl (cI, 34, .inl f)), (p0, .inr (4, [.int (nI nc), .ref b1, v2, .ref b3])), (b1, .inl (cI, 3, .inl (fun j => nI (L j)))), (b3, .inl (cI, 192, .inl pf))]) hx hb hr hlk hK hP hD hS (Nat.le_of_ble_eq_true rfl) (Nat.le_of_ble_eq_true rfl) dX7_can_83 rfl ⟨1, (by first | exact Or.inl rfl | exact Or.inr ⟨rfl, Or.inr ⟨k, hk, rfl, hnl⟩⟩), rfl, rfl⟩
        · refine lv_iconst (v := 0) hx hb dX7_can_39 (by decide) ?_
          exact gx_zret (w' := [(h0, .inr (7, [.ref a1])), (a1, .inl (cI, 34, .inl f)), (p0, .inr (4, [.int (nI nc), .ref b1, v2, .ref b3])), (b1, .inl (cI, 3, .inl (fun j => nI (L j)))), (b3, .inl (cI, 192, .inl pf))]) hx hb hr hlk hK hP hD hS (Nat.le_of_ble_eq_true rfl) (Nat.le_of_ble_eq_true rfl) dX7_can_40 rfl ⟨0, (Or.inl rfl), rfl, rfl⟩
    · obtain ⟨k, hk, rfl⟩ := gy_in36 c_1 c_9
      have hl : lv_has ls 4 [(0, .ref h0), (1, .ref p0), (2, .int (nI (3 + k)))] := hl
      refine lv_aload_n hx hb dX7_can_11 rfl (lv_at hl 0 rfl) ?_
      refine lv_iload_n hx hb dX7_can_12 rfl (lv_at hl 2 rfl) ?_
      refine lv_iconst (v := 3) hx hb dX7_can_13 (by decide) ?_
      refine lv_isub hx hb dX7_can_14 ?_
      refine gx_top (y := nI k) (show nI (3 + k) - nI 3 = nI k by rw [pk_sub (by omega)]; congr 1; omega) ?_
      refine gx_goi (wc := [(h0, .inr (7, [.ref a1])), (a1, .inl (cI, 34, .inl f))]) (wr := [(p0, .inr (4, [.int (nI nc), .ref b1, v2, .ref b3])), (b1, .inl (cI, 3, .inl (fun j => nI (L j)))), (b3, .inl (cI, 192, .inl pf))]) (va_runV (As := [.int (nI k)]) (rest := []) ⟨hx, hb, hml, hown, hts⟩ (c_rowSize l D cI cB cZ h0 a1 f k (by omega) _) (cwV 1 hts gP_c_can__c_rowSize rfl rfl rfl (by decide +kernel) ⟨Nat.le_of_ble_eq_true rfl, Nat.le_of_ble_eq_true rfl⟩) (gx_preV (ci := 7) (q0 := 0) hK gN.nil hP hD [0, 1] rfl rfl rfl rfl) rfl rfl hl.1 rfl (lv_room (Nat.le_of_ble_eq_true rfl)) dX7_can_15 ⟨Nat.le_of_ble_eq_true rfl, Nat.le_of_ble_eq_true rfl⟩) hP hD hS hA [0, 1] [2, 3, 4] rfl rfl rfl (by decide) (fun r1 w1 H locs hp hP hD hS => ?_)
      obtain ⟨h9, rfl⟩ := hp
      have h9 := h9.symm
      subst h9
      have hP : va_P D vwCl [(p0, .inr (4, [.int (nI nc), .ref b1, v2, .ref b3])), (b1, .inl (cI, 3, .inl (fun j => nI (L j)))), (b3, .inl (cI, 192, .inl pf)), (h0, .inr (7, [.ref a1])), (a1, .inl (cI, 34, .inl f))] H := hP
      have hD : va_D A [(p0, .inr (4, [.int (nI nc), .ref b1, v2, .ref b3])), (b1, .inl (cI, 3, .inl (fun j => nI (L j)))), (b3, .inl (cI, 192, .inl pf)), (h0, .inr (7, [.ref a1])), (a1, .inl (cI, 34, .inl f))] := hD
      have hsz := gSz_lt (f (13 + k))
      refine lv_if_le (tgt := 25) hx hb dX7_can_18 (by decide) (fun c_17i => ?_) (fun c_17i => ?_)
      · have c_17 : gSz (f (13 + k)) ≤ 0 := (nI_leI (a := gSz (f (13 + k))) (b := 0) (by omega) (by decide)).mp c_17i
        refine lv_iconst (v := 0) hx hb dX7_can_25 (by decide) ?_
        have hP := hP.sub (ws' := [(h0, .inr (7, [.ref a1])), (a1, .inl (cI, 34, .inl f)), (p0, .inr (4, [.int (nI nc), .ref b1, v2, .ref b3])), (b1, .inl (cI, 3, .inl (fun j => nI (L j)))), (b3, .inl (cI, 192, .inl pf))]) [3, 4, 0, 1, 2] rfl
        have hD := hD.sub (ws' := [(h0, .inr (7, [.ref a1])), (a1, .inl (cI, 34, .inl f)), (p0, .inr (4, [.int (nI nc), .ref b1, v2, .ref b3])), (b1, .inl (cI, 3, .inl (fun j => nI (L j)))), (b3, .inl (cI, 192, .inl pf))]) [3, 4, 0, 1, 2] (by decide) rfl
        exact gx_zret (w' := [(h0, .inr (7, [.ref a1])), (a1, .inl (cI, 34, .inl f)), (p0, .inr (4, [.int (nI nc), .ref b1, v2, .ref b3])), (b1, .inl (cI, 3, .inl (fun j => nI (L j)))), (b3, .inl (cI, 192, .inl pf))]) hx hb hr hlk hK hP hD hS (Nat.le_of_ble_eq_true rfl) (Nat.le_of_ble_eq_true rfl) dX7_can_26 rfl ⟨0, (by first | exact Or.inl rfl | exact Or.inr ⟨rfl, Or.inl ⟨k, hk, rfl, c_17⟩⟩), rfl, rfl⟩
      · have c_17 : 0 < gSz (f (13 + k)) := Nat.pos_of_ne_zero (fun q9 => c_17i ((nI_leI (a := gSz (f (13 + k))) (b := 0) (by omega) (by decide)).mpr (Nat.le_of_eq q9)))
        refine lv_iconst (v := 1) hx hb dX7_can_21 (by decide) ?_
        refine lv_goto (tgt := 26) hx hb dX7_can_22 (by decide) ?_
        have hP := hP.sub (ws' := [(h0, .inr (7, [.ref a1])), (a1, .inl (cI, 34, .inl f)), (p0, .inr (4, [.int (nI nc), .ref b1, v2, .ref b3])), (b1, .inl (cI, 3, .inl (fun j => nI (L j)))), (b3, .inl (cI, 192, .inl pf))]) [3, 4, 0, 1, 2] rfl
        have hD := hD.sub (ws' := [(h0, .inr (7, [.ref a1])), (a1, .inl (cI, 34, .inl f)), (p0, .inr (4, [.int (nI nc), .ref b1, v2, .ref b3])), (b1, .inl (cI, 3, .inl (fun j => nI (L j)))), (b3, .inl (cI, 192, .inl pf))]) [3, 4, 0, 1, 2] (by decide) rfl
        exact gx_zret (w' := [(h0, .inr (7, [.ref a1])), (a1, .inl (cI, 34, .inl f)), (p0, .inr (4, [.int (nI nc), .ref b1, v2, .ref b3])), (b1, .inl (cI, 3, .inl (fun j => nI (L j)))), (b3, .inl (cI, 192, .inl pf))]) hx hb hr hlk hK hP hD hS (Nat.le_of_ble_eq_true rfl) (Nat.le_of_ble_eq_true rfl) dX7_can_26 rfl ⟨1, (by first | exact Or.inl rfl | exact Or.inr ⟨rfl, Or.inl ⟨k, hk, rfl, c_17⟩⟩), rfl, rfl⟩
