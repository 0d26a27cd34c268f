theorem dX8_back_0 : decode cX8_back 0 = .ok (.iload_n 1, 1) := by decide +kernel
theorem dX8_back_1 : decode cX8_back 1 = .ok (.ifCond .lt 11, 3) := by decide +kernel
theorem dX8_back_12 : decode cX8_back 12 = .ok (.iconst (-1), 1) := by decide +kernel
theorem dX8_back_13 : decode cX8_back 13 = .ok (.ireturn, 1) := by decide +kernel
theorem dX8_back_14 : decode cX8_back 14 = .ok (.aload_n 0, 1) := by decide +kernel
theorem dX8_back_15 : decode cX8_back 15 = .ok (.dup, 1) := by decide +kernel
theorem dX8_back_16 : decode cX8_back 16 = .ok (.getfield 62, 3) := by decide +kernel
theorem dX8_back_19 : decode cX8_back 19 = .ok (.iload_n 1, 1) := by decide +kernel
theorem dX8_back_20 : decode cX8_back 20 = .ok (.isub, 1) := by decide +kernel
theorem dX8_back_21 : decode cX8_back 21 = .ok (.putfield 62, 3) := by decide +kernel
theorem dX8_back_24 : decode cX8_back 24 = .ok (.aload_n 0, 1) := by decide +kernel
theorem dX8_back_25 : decode cX8_back 25 = .ok (.getfield 62, 3) := by decide +kernel
theorem dX8_back_28 : decode cX8_back 28 = .ok (.ireturn, 1) := by decide +kernel
theorem dX8_back_4 : decode cX8_back 4 = .ok (.iload_n 1, 1) := by decide +kernel
theorem dX8_back_5 : decode cX8_back 5 = .ok (.aload_n 0, 1) := by decide +kernel
theorem dX8_back_6 : decode cX8_back 6 = .ok (.getfield 62, 3) := by decide +kernel
theorem dX8_back_9 : decode cX8_back 9 = .ok (.if_icmp .le 5, 3) := by decide +kernel
theorem dX8_feedWord_0 : decode cX8_feedWord 0 = .ok (.bipush 24, 2) := by decide +kernel
theorem dX8_feedWord_11 : decode cX8_feedWord 11 = .ok (.sipush 4000, 3) := by decide +kernel
theorem dX8_feedWord_14 : decode cX8_feedWord 14 = .ok (.if_icmp .ge 32, 3) := by decide +kernel
theorem dX8_feedWord_17 : decode cX8_feedWord 17 = .ok (.aload_n 0, 1) := by decide +kernel
theorem dX8_feedWord_18 : decode cX8_feedWord 18 = .ok (.getfield 9, 3) := by decide +kernel
theorem dX8_feedWord_2 : decode cX8_feedWord 2 = .ok (.istore_n 2, 1) := by decide +kernel
theorem dX8_feedWord_21 : decode cX8_feedWord 21 = .ok (.aload_n 0, 1) := by decide +kernel
theorem dX8_feedWord_22 : decode cX8_feedWord 22 = .ok (.getfield 62, 3) := by decide +kernel
theorem dX8_feedWord_25 : decode cX8_feedWord 25 = .ok (.iload_n 1, 1) := by decide +kernel
theorem dX8_feedWord_26 : decode cX8_feedWord 26 = .ok (.iload_n 2, 1) := by decide +kernel
theorem dX8_feedWord_27 : decode cX8_feedWord 27 = .ok (.ishr, 1) := by decide +kernel
theorem dX8_feedWord_28 : decode cX8_feedWord 28 = .ok (.i2b, 1) := by decide +kernel
theorem dX8_feedWord_29 : decode cX8_feedWord 29 = .ok (.bastore, 1) := by decide +kernel
theorem dX8_feedWord_3 : decode cX8_feedWord 3 = .ok (.iload_n 2, 1) := by decide +kernel
theorem dX8_feedWord_30 : decode cX8_feedWord 30 = .ok (.aload_n 0, 1) := by decide +kernel
theorem dX8_feedWord_31 : decode cX8_feedWord 31 = .ok (.dup, 1) := by decide +kernel
theorem dX8_feedWord_32 : decode cX8_feedWord 32 = .ok (.getfield 62, 3) := by decide +kernel
theorem dX8_feedWord_35 : decode cX8_feedWord 35 = .ok (.iconst 1, 1) := by decide +kernel
theorem dX8_feedWord_36 : decode cX8_feedWord 36 = .ok (.iadd, 1) := by decide +kernel
theorem dX8_feedWord_37 : decode cX8_feedWord 37 = .ok (.putfield 62, 3) := by decide +kernel
theorem dX8_feedWord_4 : decode cX8_feedWord 4 = .ok (.ifCond .lt 42, 3) := by decide +kernel
theorem dX8_feedWord_40 : decode cX8_feedWord 40 = .ok (.iinc 2 (-8), 3) := by decide +kernel
theorem dX8_feedWord_43 : decode cX8_feedWord 43 = .ok (.goto (-40), 3) := by decide +kernel
theorem dX8_feedWord_46 : decode cX8_feedWord 46 = .ok (.return_, 1) := by decide +kernel
theorem dX8_feedWord_7 : decode cX8_feedWord 7 = .ok (.aload_n 0, 1) := by decide +kernel
theorem dX8_feedWord_8 : decode cX8_feedWord 8 = .ok (.getfield 62, 3) := by decide +kernel
theorem dX8_feed_0 : decode cX8_feed 0 = .ok (.aload_n 0, 1) := by decide +kernel
theorem dX8_feed_1 : decode cX8_feed 1 = .ok (.getfield 62, 3) := by decide +kernel
theorem dX8_feed_10 : decode cX8_feed 10 = .ok (.if_icmp .le 5, 3) := by decide +kernel
theorem dX8_feed_13 : decode cX8_feed 13 = .ok (.iconst (-1), 1) := by decide +kernel
theorem dX8_feed_14 : decode cX8_feed 14 = .ok (.ireturn, 1) := by decide +kernel
theorem dX8_feed_15 : decode cX8_feed 15 = .ok (.aload_n 0, 1) := by decide +kernel
theorem dX8_feed_16 : decode cX8_feed 16 = .ok (.iload_n 1, 1) := by decide +kernel
theorem dX8_feed_17 : decode cX8_feed 17 = .ok (.invokevirtual 65, 3) := by decide +kernel
theorem dX8_feed_20 : decode cX8_feed 20 = .ok (.aload_n 0, 1) := by decide +kernel
theorem dX8_feed_21 : decode cX8_feed 21 = .ok (.iload_n 2, 1) := by decide +kernel
theorem dX8_feed_22 : decode cX8_feed 22 = .ok (.invokevirtual 65, 3) := by decide +kernel
theorem dX8_feed_25 : decode cX8_feed 25 = .ok (.aload_n 0, 1) := by decide +kernel
theorem dX8_feed_26 : decode cX8_feed 26 = .ok (.iload_n 3, 1) := by decide +kernel
theorem dX8_feed_27 : decode cX8_feed 27 = .ok (.invokevirtual 65, 3) := by decide +kernel
theorem dX8_feed_30 : decode cX8_feed 30 = .ok (.aload_n 0, 1) := by decide +kernel
theorem dX8_feed_31 : decode cX8_feed 31 = .ok (.iload 4, 2) := by decide +kernel
theorem dX8_feed_33 : decode cX8_feed 33 = .ok (.invokevirtual 65, 3) := by decide +kernel
theorem dX8_feed_36 : decode cX8_feed 36 = .ok (.aload_n 0, 1) := by decide +kernel
theorem dX8_feed_37 : decode cX8_feed 37 = .ok (.iload 5, 2) := by decide +kernel
theorem dX8_feed_39 : decode cX8_feed 39 = .ok (.invokevirtual 65, 3) := by decide +kernel
theorem dX8_feed_4 : decode cX8_feed 4 = .ok (.bipush 20, 2) := by decide +kernel
theorem dX8_feed_42 : decode cX8_feed 42 = .ok (.aload_n 0, 1) := by decide +kernel
theorem dX8_feed_43 : decode cX8_feed 43 = .ok (.getfield 62, 3) := by decide +kernel
theorem dX8_feed_46 : decode cX8_feed 46 = .ok (.ireturn, 1) := by decide +kernel
theorem dX8_feed_6 : decode cX8_feed 6 = .ok (.iadd, 1) := by decide +kernel
theorem dX8_feed_7 : decode cX8_feed 7 = .ok (.sipush 4000, 3) := by decide +kernel
theorem gy_leN {x : Int32} {n : Nat} (hn : n < 2 ^ 31) (h1 : ¬ x < 0) (h2 : x ≤ nI n) : ∃ j, j ≤ n ∧ x = nI j := by
  obtain ⟨j, hj, rfl⟩ := nI_of h1
  exact ⟨j, (nI_leI hj hn).mp h2, rfl⟩
def wsP_c_X8_back : List Cond := .code yX8_back cX8_back 2 (some .int) :: ([.fieldLink RX8 62 "LitmusHall" "tapeSize" "I"] ++ wsX80)
set_option maxHeartbeats 4000000 in
set_option maxRecDepth 100000 in
theorem c_X8_back (l : Launch) (D : va_G) (cI cB cZ : ClassId) (h0 : Nat) (v0 : Value) (v2 : Value) (v3 : Value) (v4 : Value) (v5 : Value) (v6 : Value) (v7 : Value) (v8 : Value) (v9 : Value) (v10 : Value) (v11 : Value) (n : Nat) (x : Int32) (hn : n ≤ 4000) : gMi l yX8_back wsP_c_X8_back ({ frames := 0, cells := 0, slots := 0, locals := 0 }) D cI cB cZ [] [.ref h0, .int x] [(h0, .inr (8, [v0, .int (nI n), v2, v3, v4, v5, v6, v7, v8, v9, v10, v11]))] (fun r9 w9 => ∃ z : Int32, ∃ m9 : Nat, ((z = (-1) ∧ m9 = n ∧ (x < 0 ∨ ¬ x ≤ nI n)) ∨ (∃ j, j ≤ n ∧ x = nI j ∧ z = nI (n - j) ∧ m9 = n - j)) ∧ r9 = z ∧ w9 = [(h0, .inr (8, [v0, .int (nI m9), v2, v3, v4, v5, v6, v7, v8, v9, v10, v11]))]) := by
  refine gMi.of (cc := cX8_back) (maxL := 2) (ret := (some .int)) (by decide) rfl (Nat.le_of_ble_eq_true rfl) (fun p e s m below meth c A ls hx hb hr hlk hml hts hown hin hA hP hK hD hS hN hl => ?_)
  have hown : s.vm.findClass RX8 = some m.cls := hown
  have hl : lv_has ls 2 [(0, .ref h0), (1, .int x)] := hl
  refine lv_iload_n hx hb dX8_back_0 rfl (lv_at hl 1 rfl) ?_
  refine lv_if_lt (tgt := 12) hx hb dX8_back_1 (by decide) (fun c_1 => ?_) (fun c_1 => ?_)
  · refine lv_iconst (v := (-1)) hx hb dX8_back_12 (by decide) ?_
    exact gx_iret (w' := [(h0, .inr (8, [v0, .int (nI n), v2, v3, v4, v5, v6, v7, v8, v9, v10, v11]))]) hx hb hr hlk hK hP hD hS (Nat.le_of_ble_eq_true rfl) (Nat.le_of_ble_eq_true rfl) dX8_back_13 ⟨(-1), n, (by first | exact Or.inl ⟨rfl, rfl, Or.inl c_1⟩ | exact Or.inl ⟨rfl, rfl, Or.inr c_1⟩), rfl, rfl⟩
  · refine lv_iload_n hx hb dX8_back_4 rfl (lv_at hl 1 rfl) ?_
    refine lv_aload_n hx hb dX8_back_5 rfl (lv_at hl 0 rfl) ?_
    refine va_get (D := D) (ci := 8) (v := .int (nI n)) (C := RX8) (T := TX8) (N := 12) hx hb hts (fun _ h => List.mem_cons_of_mem _ (List.mem_append_right _ h)) hown hK hP 0 rfl rfl 1 (by decide) (hts (.fieldLink RX8 62 "LitmusHall" "tapeSize" "I") (by decide +kernel)) (fun _ h9 => h9) rfl dX8_back_6 ?_
    refine lv_icmp_le (tgt := 14) hx hb dX8_back_9 (by decide) (fun c_2 => ?_) (fun c_2 => ?_)
    · obtain ⟨j, hj, rfl⟩ := gy_leN (by omega) c_1 c_2
      have hl : lv_has ls 2 [(0, .ref h0), (1, .int (nI j))] := hl
      refine lv_aload_n hx hb dX8_back_14 rfl (lv_at hl 0 rfl) ?_
      refine lv_dup hx hb dX8_back_15 rfl ?_
      refine va_get (D := D) (ci := 8) (v := .int (nI n)) (C := RX8) (T := TX8) (N := 12) hx hb hts (fun _ h => List.mem_cons_of_mem _ (List.mem_append_right _ h)) hown hK hP 0 rfl rfl 1 (by decide) (hts (.fieldLink RX8 62 "LitmusHall" "tapeSize" "I") (by decide +kernel)) (fun _ h9 => h9) rfl dX8_back_16 ?_
      refine lv_iload_n hx hb dX8_back_19 rfl (lv_at hl 1 rfl) ?_
      refine lv_isub hx hb dX8_back_20 ?_
      refine gx_top (y := nI (n - j)) (pk_sub (a := n) (b := j) (by omega)) ?_
      refine va_put (D := D) (ci := 8) (v := .int (nI (n - j))) (ty := .int) (C := RX8) (T := TX8) (N := 12) hx hb hts (fun _ h => List.mem_cons_of_mem _ (List.mem_append_right _ h)) tyX8 tyX8_ok nmX8 hown hK hP hD hS 0 rfl rfl 1 (by decide) (hts (.fieldLink RX8 62 "LitmusHall" "tapeSize" "I") (by decide +kernel)) (fun _ h9 => h9) rfl (by decide +kernel) rfl rfl (Nat.le_of_ble_eq_true rfl) dX8_back_21 (fun H locs hP hD hS => ?_)
      have hP : va_P D vwCl [(h0, .inr (8, [v0, .int (nI (n - j)), v2, v3, v4, v5, v6, v7, v8, v9, v10, v11]))] H := hP
      have hD : va_D A [(h0, .inr (8, [v0, .int (nI (n - j)), v2, v3, v4, v5, v6, v7, v8, v9, v10, v11]))] := hD
      refine lv_aload_n hx hb dX8_back_24 rfl (lv_at hl 0 rfl) ?_
      refine va_get (D := D) (ci := 8) (v := .int (nI (n - j))) (C := RX8) (T := TX8) (N := 12) hx hb hts (fun _ h => List.mem_cons_of_mem _ (List.mem_append_right _ h)) hown hK hP 0 rfl rfl 1 (by decide) (hts (.fieldLink RX8 62 "LitmusHall" "tapeSize" "I") (by decide +kernel)) (fun _ h9 => h9) rfl dX8_back_25 ?_
      exact gx_iret (w' := [(h0, .inr (8, [v0, .int (nI (n - j)), v2, v3, v4, v5, v6, v7, v8, v9, v10, v11]))]) hx hb hr hlk hK hP hD hS (Nat.le_of_ble_eq_true rfl) (Nat.le_of_ble_eq_true rfl) dX8_back_28 ⟨(nI (n - j)), (n - j), (Or.inr ⟨j, hj, rfl, rfl, rfl⟩), rfl, rfl⟩
    · refine lv_iconst (v := (-1)) hx hb dX8_back_12 (by decide) ?_
      exact gx_iret (w' := [(h0, .inr (8, [v0, .int (nI n), v2, v3, v4, v5, v6, v7, v8, v9, v10, v11]))]) hx hb hr hlk hK hP hD hS (Nat.le_of_ble_eq_true rfl) (Nat.le_of_ble_eq_true rfl) dX8_back_13 ⟨(-1), n, (by first | exact Or.inl ⟨rfl, rfl, Or.inl c_2⟩ | exact Or.inl ⟨rfl, rfl, Or.inr c_2⟩), rfl, rfl⟩
