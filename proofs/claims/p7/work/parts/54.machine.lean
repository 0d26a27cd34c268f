theorem dX3_go_0 : decode cX3_go 0 = .ok (.aload_n 0, 1) := by decide +kernel
theorem dX3_go_1 : decode cX3_go 1 = .ok (.getfield 30, 3) := by decide +kernel
theorem dX3_go_10 : decode cX3_go 10 = .ok (.getfield 12, 3) := by decide +kernel
theorem dX3_go_13 : decode cX3_go 13 = .ok (.aload_n 1, 1) := by decide +kernel
theorem dX3_go_14 : decode cX3_go 14 = .ok (.iload_n 2, 1) := by decide +kernel
theorem dX3_go_15 : decode cX3_go 15 = .ok (.invokevirtual 37, 3) := by decide +kernel
theorem dX3_go_18 : decode cX3_go 18 = .ok (.ifCond .ne 5, 3) := by decide +kernel
theorem dX3_go_21 : decode cX3_go 21 = .ok (.iconst 0, 1) := by decide +kernel
theorem dX3_go_22 : decode cX3_go 22 = .ok (.ireturn, 1) := by decide +kernel
theorem dX3_go_23 : decode cX3_go 23 = .ok (.aload_n 0, 1) := by decide +kernel
theorem dX3_go_24 : decode cX3_go 24 = .ok (.getfield 12, 3) := by decide +kernel
theorem dX3_go_27 : decode cX3_go 27 = .ok (.aload_n 1, 1) := by decide +kernel
theorem dX3_go_28 : decode cX3_go 28 = .ok (.iload_n 2, 1) := by decide +kernel
theorem dX3_go_29 : decode cX3_go 29 = .ok (.aload_n 0, 1) := by decide +kernel
theorem dX3_go_30 : decode cX3_go 30 = .ok (.getfield 26, 3) := by decide +kernel
theorem dX3_go_33 : decode cX3_go 33 = .ok (.invokevirtual 41, 3) := by decide +kernel
theorem dX3_go_36 : decode cX3_go 36 = .ok (.aload_n 0, 1) := by decide +kernel
theorem dX3_go_37 : decode cX3_go 37 = .ok (.getfield 18, 3) := by decide +kernel
theorem dX3_go_4 : decode cX3_go 4 = .ok (.bipush 38, 2) := by decide +kernel
theorem dX3_go_40 : decode cX3_go 40 = .ok (.aload_n 0, 1) := by decide +kernel
theorem dX3_go_41 : decode cX3_go 41 = .ok (.getfield 30, 3) := by decide +kernel
theorem dX3_go_44 : decode cX3_go 44 = .ok (.iload_n 2, 1) := by decide +kernel
theorem dX3_go_45 : decode cX3_go 45 = .ok (.iastore, 1) := by decide +kernel
theorem dX3_go_46 : decode cX3_go 46 = .ok (.aload_n 0, 1) := by decide +kernel
theorem dX3_go_47 : decode cX3_go 47 = .ok (.dup, 1) := by decide +kernel
theorem dX3_go_48 : decode cX3_go 48 = .ok (.getfield 30, 3) := by decide +kernel
theorem dX3_go_51 : decode cX3_go 51 = .ok (.iconst 1, 1) := by decide +kernel
theorem dX3_go_52 : decode cX3_go 52 = .ok (.iadd, 1) := by decide +kernel
theorem dX3_go_53 : decode cX3_go 53 = .ok (.putfield 30, 3) := by decide +kernel
theorem dX3_go_56 : decode cX3_go 56 = .ok (.iconst 1, 1) := by decide +kernel
theorem dX3_go_57 : decode cX3_go 57 = .ok (.ireturn, 1) := by decide +kernel
theorem dX3_go_6 : decode cX3_go 6 = .ok (.if_icmp .ge 15, 3) := by decide +kernel
theorem dX3_go_9 : decode cX3_go 9 = .ok (.aload_n 0, 1) := by decide +kernel
theorem dX3_takeBack_0 : decode cX3_takeBack 0 = .ok (.aload_n 0, 1) := by decide +kernel
theorem dX3_takeBack_1 : decode cX3_takeBack 1 = .ok (.getfield 30, 3) := by decide +kernel
theorem dX3_takeBack_10 : decode cX3_takeBack 10 = .ok (.dup, 1) := by decide +kernel
theorem dX3_takeBack_11 : decode cX3_takeBack 11 = .ok (.getfield 30, 3) := by decide +kernel
theorem dX3_takeBack_14 : decode cX3_takeBack 14 = .ok (.iconst 1, 1) := by decide +kernel
theorem dX3_takeBack_15 : decode cX3_takeBack 15 = .ok (.isub, 1) := by decide +kernel
theorem dX3_takeBack_16 : decode cX3_takeBack 16 = .ok (.putfield 30, 3) := by decide +kernel
theorem dX3_takeBack_19 : decode cX3_takeBack 19 = .ok (.aload_n 0, 1) := by decide +kernel
theorem dX3_takeBack_20 : decode cX3_takeBack 20 = .ok (.getfield 12, 3) := by decide +kernel
theorem dX3_takeBack_23 : decode cX3_takeBack 23 = .ok (.aload_n 1, 1) := by decide +kernel
theorem dX3_takeBack_24 : decode cX3_takeBack 24 = .ok (.invokevirtual 33, 3) := by decide +kernel
theorem dX3_takeBack_27 : decode cX3_takeBack 27 = .ok (.iconst 0, 1) := by decide +kernel
theorem dX3_takeBack_28 : decode cX3_takeBack 28 = .ok (.istore_n 2, 1) := by decide +kernel
theorem dX3_takeBack_29 : decode cX3_takeBack 29 = .ok (.iload_n 2, 1) := by decide +kernel
theorem dX3_takeBack_30 : decode cX3_takeBack 30 = .ok (.aload_n 0, 1) := by decide +kernel
theorem dX3_takeBack_31 : decode cX3_takeBack 31 = .ok (.getfield 30, 3) := by decide +kernel
theorem dX3_takeBack_34 : decode cX3_takeBack 34 = .ok (.if_icmp .ge 27, 3) := by decide +kernel
theorem dX3_takeBack_37 : decode cX3_takeBack 37 = .ok (.aload_n 0, 1) := by decide +kernel
theorem dX3_takeBack_38 : decode cX3_takeBack 38 = .ok (.getfield 12, 3) := by decide +kernel
theorem dX3_takeBack_4 : decode cX3_takeBack 4 = .ok (.ifCond .ne 5, 3) := by decide +kernel
theorem dX3_takeBack_41 : decode cX3_takeBack 41 = .ok (.aload_n 1, 1) := by decide +kernel
theorem dX3_takeBack_42 : decode cX3_takeBack 42 = .ok (.aload_n 0, 1) := by decide +kernel
theorem dX3_takeBack_43 : decode cX3_takeBack 43 = .ok (.getfield 18, 3) := by decide +kernel
theorem dX3_takeBack_46 : decode cX3_takeBack 46 = .ok (.iload_n 2, 1) := by decide +kernel
theorem dX3_takeBack_47 : decode cX3_takeBack 47 = .ok (.iaload, 1) := by decide +kernel
theorem dX3_takeBack_48 : decode cX3_takeBack 48 = .ok (.aload_n 0, 1) := by decide +kernel
theorem dX3_takeBack_49 : decode cX3_takeBack 49 = .ok (.getfield 26, 3) := by decide +kernel
theorem dX3_takeBack_52 : decode cX3_takeBack 52 = .ok (.invokevirtual 41, 3) := by decide +kernel
theorem dX3_takeBack_55 : decode cX3_takeBack 55 = .ok (.iinc 2 1, 3) := by decide +kernel
theorem dX3_takeBack_58 : decode cX3_takeBack 58 = .ok (.goto (-29), 3) := by decide +kernel
theorem dX3_takeBack_61 : decode cX3_takeBack 61 = .ok (.iconst 1, 1) := by decide +kernel
theorem dX3_takeBack_62 : decode cX3_takeBack 62 = .ok (.ireturn, 1) := by decide +kernel
theorem dX3_takeBack_7 : decode cX3_takeBack 7 = .ok (.iconst 0, 1) := by decide +kernel
theorem dX3_takeBack_8 : decode cX3_takeBack 8 = .ok (.ireturn, 1) := by decide +kernel
theorem dX3_takeBack_9 : decode cX3_takeBack 9 = .ok (.aload_n 0, 1) := by decide +kernel
def wsP_c_go : List Cond := .code yX3_go cX3_go 3 (some .boolean) :: (([.fieldLink RX3 30 "LitmusHall$Machine" "steps" "I", .fieldLink RX3 12 "LitmusHall$Machine" "state" "LLitmusHall$State;", .methodLink RX3 37 yX7_can, .instanceMethod yX7_can, .selects RX7 yX7_can yX7_can, .initialized RX7, .fieldLink RX3 26 "LitmusHall$Machine" "mode" "I", .methodLink RX3 41 yX7_move, .instanceMethod yX7_move, .selects RX7 yX7_move yX7_move, .fieldLink RX3 18 "LitmusHall$Machine" "done" "[I"] ++ wsX30) ++ (wsP_c_can ++ (wsP_e_moveG ++ (wsP_e_moveK ++ []))))
theorem gW_c_go : wsP_c_go.all goodWord = true := by unfold wsP_c_go; exact gw_mk (by decide +kernel) (gw_app gW_c_can (gw_app gW_e_moveG (gw_app gW_e_moveK rfl)))
set_option maxRecDepth 20000 in
theorem gP_c_go__c_can : GoodIn wsP_c_go (wsV RX3 37 RX7 yX7_can wsP_c_can) := gw_in (pre := [.methodLink RX3 37 yX7_can, .instanceMethod yX7_can, .selects RX7 yX7_can yX7_can, .initialized RX7]) (by decide +kernel) (fun _ h => List.mem_cons_of_mem _ (List.mem_append_right _ (List.mem_append_left _ h))) gW_c_can
set_option maxRecDepth 20000 in
theorem gP_c_go__e_moveG : GoodIn wsP_c_go (wsV RX3 41 RX7 yX7_move wsP_e_moveG) := gw_in (pre := [.methodLink RX3 41 yX7_move, .instanceMethod yX7_move, .selects RX7 yX7_move yX7_move, .initialized RX7]) (by decide +kernel) (fun _ h => List.mem_cons_of_mem _ (List.mem_append_right _ (List.mem_append_right _ (List.mem_append_left _ h)))) gW_e_moveG
set_option maxRecDepth 20000 in
theorem gP_c_go__e_moveK : GoodIn wsP_c_go (wsV RX3 41 RX7 yX7_move wsP_e_moveK) := gw_in (pre := [.methodLink RX3 41 yX7_move, .instanceMethod yX7_move, .selects RX7 yX7_move yX7_move, .initialized RX7]) (by decide +kernel) (fun _ h => List.mem_cons_of_mem _ (List.mem_append_right _ (List.mem_append_right _ (List.mem_append_right _ (List.mem_append_left _ h))))) gW_e_moveK
set_option maxHeartbeats 4000000 in
set_option maxRecDepth 100000 in
theorem c_go (l : Launch) (D : va_G) (cI cB cZ : ClassId) (h0 : Nat) (s0 : Nat) (s1 : Nat) (a4 : Nat) (v1 : Value) (st : Nat) (md : Int32) (dn : Nat → Int32) (p0 : Nat) (b1 : Nat) (b2 : Nat) (b3 : Nat) (nc : Nat) (L : Nat → Nat) (cf : Nat → Int32) (pf : Nat → Int32) (x : Int32) (hc : nc ≤ 3) (hL : ∀ k, k < 3 → L k ≤ 8) (hI : gG L pf 7) (hst : st ≤ 38) (hM : gMach pf cf md dn L nc st) : gMi l yX3_go wsP_c_go ({ frames := 3, cells := 0, slots := 0, locals := 91 }) D cI cB cZ [] [.ref h0, .ref p0, .int x] [(h0, .inr (3, [.ref s0, v1, .int (nI st), .int md, .ref a4])), (s0, .inr (7, [.ref s1])), (s1, .inl (cI, 34, .inl (gRun pf cf md dn st))), (a4, .inl (cI, 38, .inl dn)), (p0, .inr (4, [.int (nI nc), .ref b1, .ref b2, .ref b3])), (b1, .inl (cI, 3, .inl (fun j => nI (L j)))), (b2, .inl (cI, 4, .inl cf)), (b3, .inl (cI, 192, .inl pf))] (fun r9 w9 => ∃ z : Int32, ∃ st9 : Nat, ∃ dn9 : Nat → Int32, (gZ z) ∧ (st9 ≤ 38) ∧ (gMach pf cf md dn9 L nc st9) ∧ r9 = z ∧ w9 = [(h0, .inr (3, [.ref s0, v1, .int (nI st9), .int md, .ref a4])), (s0, .inr (7, [.ref s1])), (s1, .inl (cI, 34, .inl (gRun pf cf md dn9 st9))), (a4, .inl (cI, 38, .inl dn9)), (p0, .inr (4, [.int (nI nc), .ref b1, .ref b2, .ref b3])), (b1, .inl (cI, 3, .inl (fun j => nI (L j)))), (b2, .inl (cI, 4, .inl cf)), (b3, .inl (cI, 192, .inl pf))]) := by
  refine gMi.of (cc := cX3_go) (maxL := 3) (ret := (some .boolean)) (by decide) rfl (Nat.le_of_ble_eq_true rfl) (fun p e s m below meth c A ls hx hb hr hlk hml hts hown hin hA hP hK hD hS hN hl => ?_)
  have hown : s.vm.findClass RX3 = some m.cls := hown
  have hl : lv_has ls 3 [(0, .ref h0), (1, .ref p0), (2, .int x)] := hl
  refine lv_aload_n hx hb dX3_go_0 rfl (lv_at hl 0 rfl) ?_
  refine va_get (D := D) (ci := 3) (v := .int (nI st)) (C := RX3) (T := TX3) (N := 5) hx hb hts (fun _ h => List.mem_cons_of_mem _ (List.mem_append_left _ (List.mem_append_right _ h))) hown hK hP 0 rfl rfl 2 (by decide) (hts (.fieldLink RX3 30 "LitmusHall$Machine" "steps" "I") (by decide +kernel)) (fun _ h9 => h9) rfl dX3_go_1 ?_
  refine lv_bipush (v := 38) hx hb dX3_go_4 (by decide) ?_
  refine gy_ge (a := st) (b := 38) (tgt := 21) hx hb (by omega) (by omega) dX3_go_6 (by decide) (fun c_1 => ?_) (fun c_1 => ?_)
  · refine lv_iconst (v := 0) hx hb dX3_go_21 (by decide) ?_
    exact gx_zret (w' := [(h0, .inr (3, [.ref s0, v1, .int (nI st), .int md, .ref a4])), (s0, .inr (7, [.ref s1])), (s1, .inl (cI, 34, .inl (gRun pf cf md dn st))), (a4, .inl (cI, 38, .inl dn)), (p0, .inr (4, [.int (nI nc), .ref b1, .ref b2, .ref b3])), (b1, .inl (cI, 3, .inl (fun j => nI (L j)))), (b2, .inl (cI, 4, .inl cf)), (b3, .inl (cI, 192, .inl pf))]) hx hb hr hlk hK hP hD hS (Nat.le_of_ble_eq_true rfl) (Nat.le_of_ble_eq_true rfl) dX3_go_22 rfl ⟨0, st, dn, (Or.inl rfl), (by omega), hM, rfl, rfl⟩
  · refine lv_aload_n hx hb dX3_go_9 rfl (lv_at hl 0 rfl) ?_
    refine va_get (D := D) (ci := 3) (v := .ref s0) (C := RX3) (T := TX3) (N := 5) hx hb hts (fun _ h => List.mem_cons_of_mem _ (List.mem_append_left _ (List.mem_append_right _ h))) hown hK hP 0 rfl rfl 0 (by decide) (hts (.fieldLink RX3 12 "LitmusHall$Machine" "state" "LLitmusHall$State;") (by decide +kernel)) (fun _ h9 => h9) rfl dX3_go_10 ?_
    refine lv_aload_n hx hb dX3_go_13 rfl (lv_at hl 1 rfl) ?_
    refine lv_iload_n hx hb dX3_go_14 rfl (lv_at hl 2 rfl) ?_
    refine gx_goi (wc := [(s0, .inr (7, [.ref s1])), (s1, .inl (cI, 34, .inl (gRun pf cf md dn st))), (p0, .inr (4, [.int (nI nc), .ref b1, .ref b2, .ref b3])), (b1, .inl (cI, 3, .inl (fun j => nI (L j)))), (b3, .inl (cI, 192, .inl pf))]) (wr := [(h0, .inr (3, [.ref s0, v1, .int (nI st), .int md, .ref a4])), (a4, .inl (cI, 38, .inl dn)), (b2, .inl (cI, 4, .inl cf))]) (va_runV (As := [.ref p0, .int x]) (rest := []) ⟨hx, hb, hml, hown, hts⟩ (c_can l D cI cB cZ s0 s1 (gRun pf cf md dn st) p0 b1 b3 (.ref b2) nc L pf x (by omega) hL _) (cwV 2 hts gP_c_go__c_can rfl rfl rfl (by decide +kernel) ⟨Nat.le_of_ble_eq_true rfl, Nat.le_of_ble_eq_true rfl⟩) (gx_preV (ci := 7) (q0 := 0) hK gN.nil hP hD [1, 2, 4, 5, 7] rfl rfl rfl rfl) rfl rfl hl.1 rfl (lv_room (Nat.le_of_ble_eq_true rfl)) dX3_go_15 ⟨Nat.le_of_ble_eq_true rfl, Nat.le_of_ble_eq_true rfl⟩) hP hD hS hA [1, 2, 4, 5, 7] [0, 3, 6] rfl rfl rfl (by decide) (fun r1 w1 H locs hp hP hD hS => ?_)
    obtain ⟨e_2, hq_3, h9, rfl⟩ := hp
    have h9 := h9.symm
    subst h9
    have hq_3 : e_2 = 0 ∨ (e_2 = 1 ∧ gCan (gRun pf cf md dn st) L nc x) := hq_3
    have hP : va_P D vwCl [(h0, .inr (3, [.ref s0, v1, .int (nI st), .int md, .ref a4])), (a4, .inl (cI, 38, .inl dn)), (b2, .inl (cI, 4, .inl cf)), (s0, .inr (7, [.ref s1])), (s1, .inl (cI, 34, .inl (gRun pf cf md dn st))), (p0, .inr (4, [.int (nI nc), .ref b1, .ref b2, .ref b3])), (b1, .inl (cI, 3, .inl (fun j => nI (L j)))), (b3, .inl (cI, 192, .inl pf))] H := hP
    have hD : va_D A [(h0, .inr (3, [.ref s0, v1, .int (nI st), .int md, .ref a4])), (a4, .inl (cI, 38, .inl dn)), (b2, .inl (cI, 4, .inl cf)), (s0, .inr (7, [.ref s1])), (s1, .inl (cI, 34, .inl (gRun pf cf md dn st))), (p0, .inr (4, [.int (nI nc), .ref b1, .ref b2, .ref b3])), (b1, .inl (cI, 3, .inl (fun j => nI (L j)))), (b3, .inl (cI, 192, .inl pf))] := hD
    refine lv_if_ne (tgt := 23) hx hb dX3_go_18 (by decide) (fun c_4 => ?_) (fun c_4 => ?_)
    · rcases ((hq_3).resolve_left c_4).2 with ⟨k, hk, ek, hz⟩ | ⟨k, hk, ek, hz⟩
      · have hcn := ((hq_3).resolve_left c_4).2
        have hok := hM.2 st (Nat.le_refl _)
        refine lv_aload_n hx hb dX3_go_23 rfl (lv_at hl 0 rfl) ?_
        refine va_get (D := D) (ci := 3) (v := .ref s0) (C := RX3) (T := TX3) (N := 5) hx hb hts (fun _ h => List.mem_cons_of_mem _ (List.mem_append_left _ (List.mem_append_right _ h))) hown hK hP 0 rfl rfl 0 (by decide) (hts (.fieldLink RX3 12 "LitmusHall$Machine" "state" "LLitmusHall$State;") (by decide +kernel)) (fun _ h9 => h9) rfl dX3_go_24 ?_
        refine lv_aload_n hx hb dX3_go_27 rfl (lv_at hl 1 rfl) ?_
        refine lv_iload_n hx hb dX3_go_28 rfl (lv_at hl 2 rfl) ?_
        refine gx_top (y := nI (3 + k)) ek ?_
        refine lv_aload_n hx hb dX3_go_29 rfl (lv_at hl 0 rfl) ?_
        refine va_get (D := D) (ci := 3) (v := .int md) (C := RX3) (T := TX3) (N := 5) hx hb hts (fun _ h => List.mem_cons_of_mem _ (List.mem_append_left _ (List.mem_append_right _ h))) hown hK hP 0 rfl rfl 3 (by decide) (hts (.fieldLink RX3 26 "LitmusHall$Machine" "mode" "I") (by decide +kernel)) (fun _ h9 => h9) rfl dX3_go_30 ?_
        refine gx_gov (wc := [(s0, .inr (7, [.ref s1])), (s1, .inl (cI, 34, .inl (gRun pf cf md dn st)))]) (wr := [(h0, .inr (3, [.ref s0, v1, .int (nI st), .int md, .ref a4])), (a4, .inl (cI, 38, .inl dn)), (b2, .inl (cI, 4, .inl cf)), (p0, .inr (4, [.int (nI nc), .ref b1, .ref b2, .ref b3])), (b1, .inl (cI, 3, .inl (fun j => nI (L j)))), (b3, .inl (cI, 192, .inl pf))]) (va_runV (As := [.ref p0, .int (nI (3 + k)), .int md]) (rest := []) ⟨hx, hb, hml, hown, hts⟩ (e_moveG l D cI cB cZ s0 s1 (gRun pf cf md dn st) p0 k md (by omega) _) (cwV 3 hts gP_c_go__e_moveG rfl rfl rfl (by decide +kernel) ⟨Nat.le_of_ble_eq_true rfl, Nat.le_of_ble_eq_true rfl⟩) (gx_preV (ci := 7) (q0 := 0) hK gN.nil hP hD [3, 4] rfl rfl rfl rfl) rfl rfl hl.1 rfl (lv_room (Nat.le_of_ble_eq_true rfl)) dX3_go_33 ⟨Nat.le_of_ble_eq_true rfl, Nat.le_of_ble_eq_true rfl⟩) hP hD hS hA [3, 4] [0, 1, 2, 5, 6, 7] rfl rfl rfl (by decide) (fun w1 H locs hp hP hD hS => ?_)
        obtain ⟨rfl⟩ := hp
        have hP : va_P D vwCl [(h0, .inr (3, [.ref s0, v1, .int (nI st), .int md, .ref a4])), (a4, .inl (cI, 38, .inl dn)), (b2, .inl (cI, 4, .inl cf)), (p0, .inr (4, [.int (nI nc), .ref b1, .ref b2, .ref b3])), (b1, .inl (cI, 3, .inl (fun j => nI (L j)))), (b3, .inl (cI, 192, .inl pf)), (s0, .inr (7, [.ref s1])), (s1, .inl (cI, 34, .inl (gLg (gRun pf cf md dn st) k)))] H := hP
        have hD : va_D A [(h0, .inr (3, [.ref s0, v1, .int (nI st), .int md, .ref a4])), (a4, .inl (cI, 38, .inl dn)), (b2, .inl (cI, 4, .inl cf)), (p0, .inr (4, [.int (nI nc), .ref b1, .ref b2, .ref b3])), (b1, .inl (cI, 3, .inl (fun j => nI (L j)))), (b3, .inl (cI, 192, .inl pf)), (s0, .inr (7, [.ref s1])), (s1, .inl (cI, 34, .inl (gLg (gRun pf cf md dn st) k)))] := hD
        have hgs : gLg (gRun pf cf md dn st) k = gStep pf md (gRun pf cf md dn st) x := by rw [ek]; exact (gStep_G hk).symm
        have hW9 : gOkW (gStep pf md (gRun pf cf md dn st) x) := hgs ▸ gOkW_lg hok hk hz
        refine lv_aload_n hx hb dX3_go_36 rfl (lv_at hl 0 rfl) ?_
        refine va_get (D := D) (ci := 3) (v := .ref a4) (C := RX3) (T := TX3) (N := 5) hx hb hts (fun _ h => List.mem_cons_of_mem _ (List.mem_append_left _ (List.mem_append_right _ h))) hown hK hP 0 rfl rfl 4 (by decide) (hts (.fieldLink RX3 18 "LitmusHall$Machine" "done" "[I") (by decide +kernel)) (fun _ h9 => h9) rfl dX3_go_37 ?_
        refine lv_aload_n hx hb dX3_go_40 rfl (lv_at hl 0 rfl) ?_
        refine va_get (D := D) (ci := 3) (v := .int (nI st)) (C := RX3) (T := TX3) (N := 5) hx hb hts (fun _ h => List.mem_cons_of_mem _ (List.mem_append_left _ (List.mem_append_right _ h))) hown hK hP 0 rfl rfl 2 (by decide) (hts (.fieldLink RX3 30 "LitmusHall$Machine" "steps" "I") (by decide +kernel)) (fun _ h9 => h9) rfl dX3_go_41 ?_
        refine lv_iload_n hx hb dX3_go_44 rfl (lv_at hl 2 rfl) ?_
        refine gy_ist (i := st) hx hb hK hP hD hS 1 rfl (by omega) (by omega) dX3_go_45 (fun H locs hP hD hS => ?_)
        have hP : va_P D vwCl [(h0, .inr (3, [.ref s0, v1, .int (nI st), .int md, .ref a4])), (a4, .inl (cI, 38, .inl (upd dn st x))), (b2, .inl (cI, 4, .inl cf)), (p0, .inr (4, [.int (nI nc), .ref b1, .ref b2, .ref b3])), (b1, .inl (cI, 3, .inl (fun j => nI (L j)))), (b3, .inl (cI, 192, .inl pf)), (s0, .inr (7, [.ref s1])), (s1, .inl (cI, 34, .inl (gLg (gRun pf cf md dn st) k)))] H := hP
        have hD : va_D A [(h0, .inr (3, [.ref s0, v1, .int (nI st), .int md, .ref a4])), (a4, .inl (cI, 38, .inl (upd dn st x))), (b2, .inl (cI, 4, .inl cf)), (p0, .inr (4, [.int (nI nc), .ref b1, .ref b2, .ref b3])), (b1, .inl (cI, 3, .inl (fun j => nI (L j)))), (b3, .inl (cI, 192, .inl pf)), (s0, .inr (7, [.ref s1])), (s1, .inl (cI, 34, .inl (gLg (gRun pf cf md dn st) k)))] := hD
        refine lv_aload_n hx hb dX3_go_46 rfl (lv_at hl 0 rfl) ?_
        refine lv_dup hx hb dX3_go_47 rfl ?_
        refine va_get (D := D) (ci := 3) (v := .int (nI st)) (C := RX3) (T := TX3) (N := 5) hx hb hts (fun _ h => List.mem_cons_of_mem _ (List.mem_append_left _ (List.mem_append_right _ h))) hown hK hP 0 rfl rfl 2 (by decide) (hts (.fieldLink RX3 30 "LitmusHall$Machine" "steps" "I") (by decide +kernel)) (fun _ h9 => h9) rfl dX3_go_48 ?_
        refine lv_iconst (v := 1) hx hb dX3_go_51 (by decide) ?_
        refine lv_iadd hx hb dX3_go_52 ?_
        refine gx_top (y := nI (st + 1)) (nI_add st 1) ?_
        refine va_put (D := D) (ci := 3) (v := .int (nI (st + 1))) (ty := .int) (C := RX3) (T := TX3) (N := 5) hx hb hts (fun _ h => List.mem_cons_of_mem _ (List.mem_append_left _ (List.mem_append_right _ h))) tyX3 tyX3_ok nmX3 hown hK hP hD hS 0 rfl rfl 2 (by decide) (hts (.fieldLink RX3 30 "LitmusHall$Machine" "steps" "I") (by decide +kernel)) (fun _ h9 => h9) rfl (by decide +kernel) rfl rfl (Nat.le_of_ble_eq_true rfl) dX3_go_53 (fun H locs hP hD hS => ?_)
        have hP : va_P D vwCl [(h0, .inr (3, [.ref s0, v1, .int (nI (st + 1)), .int md, .ref a4])), (a4, .inl (cI, 38, .inl (upd dn st x))), (b2, .inl (cI, 4, .inl cf)), (p0, .inr (4, [.int (nI nc), .ref b1, .ref b2, .ref b3])), (b1, .inl (cI, 3, .inl (fun j => nI (L j)))), (b3, .inl (cI, 192, .inl pf)), (s0, .inr (7, [.ref s1])), (s1, .inl (cI, 34, .inl (gLg (gRun pf cf md dn st) k)))] H := hP
        have hD : va_D A [(h0, .inr (3, [.ref s0, v1, .int (nI (st + 1)), .int md, .ref a4])), (a4, .inl (cI, 38, .inl (upd dn st x))), (b2, .inl (cI, 4, .inl cf)), (p0, .inr (4, [.int (nI nc), .ref b1, .ref b2, .ref b3])), (b1, .inl (cI, 3, .inl (fun j => nI (L j)))), (b3, .inl (cI, 192, .inl pf)), (s0, .inr (7, [.ref s1])), (s1, .inl (cI, 34, .inl (gLg (gRun pf cf md dn st) k)))] := hD
        refine lv_iconst (v := 1) hx hb dX3_go_56 (by decide) ?_
        have hP := gy_ext hP 7 rfl (gRun pf cf md (upd dn st x) (st + 1)) (fun j _ => by rw [gRun_next, ← hgs])
        have hD := gy_extD (y := .inl (cI, 34, .inl (gRun pf cf md (upd dn st x) (st + 1)))) hD 7 rfl
        have hP : va_P D vwCl [(h0, .inr (3, [.ref s0, v1, .int (nI (st + 1)), .int md, .ref a4])), (a4, .inl (cI, 38, .inl (upd dn st x))), (b2, .inl (cI, 4, .inl cf)), (p0, .inr (4, [.int (nI nc), .ref b1, .ref b2, .ref b3])), (b1, .inl (cI, 3, .inl (fun j => nI (L j)))), (b3, .inl (cI, 192, .inl pf)), (s0, .inr (7, [.ref s1])), (s1, .inl (cI, 34, .inl (gRun pf cf md (upd dn st x) (st + 1))))] H := hP
        have hD : va_D A [(h0, .inr (3, [.ref s0, v1, .int (nI (st + 1)), .int md, .ref a4])), (a4, .inl (cI, 38, .inl (upd dn st x))), (b2, .inl (cI, 4, .inl cf)), (p0, .inr (4, [.int (nI nc), .ref b1, .ref b2, .ref b3])), (b1, .inl (cI, 3, .inl (fun j => nI (L j)))), (b3, .inl (cI, 192, .inl pf)), (s0, .inr (7, [.ref s1])), (s1, .inl (cI, 34, .inl (gRun pf cf md (upd dn st x) (st + 1))))] := hD
        have hP := hP.sub (ws' := [(h0, .inr (3, [.ref s0, v1, .int (nI (st + 1)), .int md, .ref a4])), (s0, .inr (7, [.ref s1])), (s1, .inl (cI, 34, .inl (gRun pf cf md (upd dn st x) (st + 1)))), (a4, .inl (cI, 38, .inl (upd dn st x))), (p0, .inr (4, [.int (nI nc), .ref b1, .ref b2, .ref b3])), (b1, .inl (cI, 3, .inl (fun j => nI (L j)))), (b2, .inl (cI, 4, .inl cf)), (b3, .inl (cI, 192, .inl pf))]) [0, 6, 7, 1, 3, 4, 2, 5] rfl
        have hD := hD.sub (ws' := [(h0, .inr (3, [.ref s0, v1, .int (nI (st + 1)), .int md, .ref a4])), (s0, .inr (7, [.ref s1])), (s1, .inl (cI, 34, .inl (gRun pf cf md (upd dn st x) (st + 1)))), (a4, .inl (cI, 38, .inl (upd dn st x))), (p0, .inr (4, [.int (nI nc), .ref b1, .ref b2, .ref b3])), (b1, .inl (cI, 3, .inl (fun j => nI (L j)))), (b2, .inl (cI, 4, .inl cf)), (b3, .inl (cI, 192, .inl pf))]) [0, 6, 7, 1, 3, 4, 2, 5] (by decide) rfl
        exact gx_zret (w' := [(h0, .inr (3, [.ref s0, v1, .int (nI (st + 1)), .int md, .ref a4])), (s0, .inr (7, [.ref s1])), (s1, .inl (cI, 34, .inl (gRun pf cf md (upd dn st x) (st + 1)))), (a4, .inl (cI, 38, .inl (upd dn st x))), (p0, .inr (4, [.int (nI nc), .ref b1, .ref b2, .ref b3])), (b1, .inl (cI, 3, .inl (fun j => nI (L j)))), (b2, .inl (cI, 4, .inl cf)), (b3, .inl (cI, 192, .inl pf))]) hx hb hr hlk hK hP hD hS (Nat.le_of_ble_eq_true rfl) (Nat.le_of_ble_eq_true rfl) dX3_go_57 rfl ⟨1, (st + 1), (upd dn st x), (Or.inr rfl), (by omega), (gMach_next hM hcn hW9), rfl, rfl⟩
      · have hcn := ((hq_3).resolve_left c_4).2
        have hok := hM.2 st (Nat.le_refl _)
        refine lv_aload_n hx hb dX3_go_23 rfl (lv_at hl 0 rfl) ?_
        refine va_get (D := D) (ci := 3) (v := .ref s0) (C := RX3) (T := TX3) (N := 5) hx hb hts (fun _ h => List.mem_cons_of_mem _ (List.mem_append_left _ (List.mem_append_right _ h))) hown hK hP 0 rfl rfl 0 (by decide) (hts (.fieldLink RX3 12 "LitmusHall$Machine" "state" "LLitmusHall$State;") (by decide +kernel)) (fun _ h9 => h9) rfl dX3_go_24 ?_
        refine lv_aload_n hx hb dX3_go_27 rfl (lv_at hl 1 rfl) ?_
        refine lv_iload_n hx hb dX3_go_28 rfl (lv_at hl 2 rfl) ?_
        refine gx_top (y := nI k) ek ?_
        refine lv_aload_n hx hb dX3_go_29 rfl (lv_at hl 0 rfl) ?_
        refine va_get (D := D) (ci := 3) (v := .int md) (C := RX3) (T := TX3) (N := 5) hx hb hts (fun _ h => List.mem_cons_of_mem _ (List.mem_append_left _ (List.mem_append_right _ h))) hown hK hP 0 rfl rfl 3 (by decide) (hts (.fieldLink RX3 26 "LitmusHall$Machine" "mode" "I") (by decide +kernel)) (fun _ h9 => h9) rfl dX3_go_30 ?_
        refine gx_gov (wc := [(s0, .inr (7, [.ref s1])), (s1, .inl (cI, 34, .inl (gRun pf cf md dn st))), (p0, .inr (4, [.int (nI nc), .ref b1, .ref b2, .ref b3])), (b1, .inl (cI, 3, .inl (fun j => nI (L j)))), (b3, .inl (cI, 192, .inl pf))]) (wr := [(h0, .inr (3, [.ref s0, v1, .int (nI st), .int md, .ref a4])), (a4, .inl (cI, 38, .inl dn)), (b2, .inl (cI, 4, .inl cf))]) (va_runV (As := [.ref p0, .int (nI k), .int md]) (rest := []) ⟨hx, hb, hml, hown, hts⟩ (e_moveK l D cI cB cZ s0 s1 (gRun pf cf md dn st) p0 b1 b3 (.ref b2) nc L pf k (gNx ((gRun pf cf md dn st) (13 + k))) (((k * 8) + gNx ((gRun pf cf md dn st) (13 + k))) * 8) 7 md (by omega) hL (by omega) rfl hz rfl (by have := hL k (by omega); omega) (hI k (by omega) _ hz) hok _) (cwV 3 hts gP_c_go__e_moveK rfl rfl rfl (by decide +kernel) ⟨Nat.le_of_ble_eq_true rfl, Nat.le_of_ble_eq_true rfl⟩) (gx_preV (ci := 7) (q0 := 0) hK gN.nil hP hD [3, 4, 5, 6, 7] rfl rfl rfl rfl) rfl rfl hl.1 rfl (lv_room (Nat.le_of_ble_eq_true rfl)) dX3_go_33 ⟨Nat.le_of_ble_eq_true rfl, Nat.le_of_ble_eq_true rfl⟩) hP hD hS hA [3, 4, 5, 6, 7] [0, 1, 2] rfl rfl rfl (by decide) (fun w1 H locs hp hP hD hS => ?_)
        obtain ⟨e_5, hq_6, hq_7, rfl⟩ := hp
        have hq_6 : gOkW e_5 := hq_6
        have hq_7 : e_5 = gMK pf (gRun pf cf md dn st) k (((k * 8) + gNx ((gRun pf cf md dn st) (13 + k))) * 8) md := hq_7
        have hP : va_P D vwCl [(h0, .inr (3, [.ref s0, v1, .int (nI st), .int md, .ref a4])), (a4, .inl (cI, 38, .inl dn)), (b2, .inl (cI, 4, .inl cf)), (s0, .inr (7, [.ref s1])), (s1, .inl (cI, 34, .inl e_5)), (p0, .inr (4, [.int (nI nc), .ref b1, .ref b2, .ref b3])), (b1, .inl (cI, 3, .inl (fun j => nI (L j)))), (b3, .inl (cI, 192, .inl pf))] H := hP
        have hD : va_D A [(h0, .inr (3, [.ref s0, v1, .int (nI st), .int md, .ref a4])), (a4, .inl (cI, 38, .inl dn)), (b2, .inl (cI, 4, .inl cf)), (s0, .inr (7, [.ref s1])), (s1, .inl (cI, 34, .inl e_5)), (p0, .inr (4, [.int (nI nc), .ref b1, .ref b2, .ref b3])), (b1, .inl (cI, 3, .inl (fun j => nI (L j)))), (b3, .inl (cI, 192, .inl pf))] := hD
        have hgs := (hq_7).trans ((gStep_K (pf := pf) (mode := md) (f := gRun pf cf md dn st) (show k < 3 by omega)).symm.trans (by rw [← ek]))
        have hW9 : gOkW (gStep pf md (gRun pf cf md dn st) x) := hgs ▸ hq_6
        refine lv_aload_n hx hb dX3_go_36 rfl (lv_at hl 0 rfl) ?_
        refine va_get (D := D) (ci := 3) (v := .ref a4) (C := RX3) (T := TX3) (N := 5) hx hb hts (fun _ h => List.mem_cons_of_mem _ (List.mem_append_left _ (List.mem_append_right _ h))) hown hK hP 0 rfl rfl 4 (by decide) (hts (.fieldLink RX3 18 "LitmusHall$Machine" "done" "[I") (by decide +kernel)) (fun _ h9 => h9) rfl dX3_go_37 ?_
        refine lv_aload_n hx hb dX3_go_40 rfl (lv_at hl 0 rfl) ?_
        refine va_get (D := D) (ci := 3) (v := .int (nI st)) (C := RX3) (T := TX3) (N := 5) hx hb hts (fun _ h => List.mem_cons_of_mem _ (List.mem_append_left _ (List.mem_append_right _ h))) hown hK hP 0 rfl rfl 2 (by decide) (hts (.fieldLink RX3 30 "LitmusHall$Machine" "steps" "I") (by decide +kernel)) (fun _ h9 => h9) rfl dX3_go_41 ?_
        refine lv_iload_n hx hb dX3_go_44 rfl (lv_at hl 2 rfl) ?_
        refine gy_ist (i := st) hx hb hK hP hD hS 1 rfl (by omega) (by omega) dX3_go_45 (fun H locs hP hD hS => ?_)
        have hP : va_P D vwCl [(h0, .inr (3, [.ref s0, v1, .int (nI st), .int md, .ref a4])), (a4, .inl (cI, 38, .inl (upd dn st x))), (b2, .inl (cI, 4, .inl cf)), (s0, .inr (7, [.ref s1])), (s1, .inl (cI, 34, .inl e_5)), (p0, .inr (4, [.int (nI nc), .ref b1, .ref b2, .ref b3])), (b1, .inl (cI, 3, .inl (fun j => nI (L j)))), (b3, .inl (cI, 192, .inl pf))] H := hP
        have hD : va_D A [(h0, .inr (3, [.ref s0, v1, .int (nI st), .int md, .ref a4])), (a4, .inl (cI, 38, .inl (upd dn st x))), (b2, .inl (cI, 4, .inl cf)), (s0, .inr (7, [.ref s1])), (s1, .inl (cI, 34, .inl e_5)), (p0, .inr (4, [.int (nI nc), .ref b1, .ref b2, .ref b3])), (b1, .inl (cI, 3, .inl (fun j => nI (L j)))), (b3, .inl (cI, 192, .inl pf))] := hD
        refine lv_aload_n hx hb dX3_go_46 rfl (lv_at hl 0 rfl) ?_
        refine lv_dup hx hb dX3_go_47 rfl ?_
        refine va_get (D := D) (ci := 3) (v := .int (nI st)) (C := RX3) (T := TX3) (N := 5) hx hb hts (fun _ h => List.mem_cons_of_mem _ (List.mem_append_left _ (List.mem_append_right _ h))) hown hK hP 0 rfl rfl 2 (by decide) (hts (.fieldLink RX3 30 "LitmusHall$Machine" "steps" "I") (by decide +kernel)) (fun _ h9 => h9) rfl dX3_go_48 ?_
        refine lv_iconst (v := 1) hx hb dX3_go_51 (by decide) ?_
        refine lv_iadd hx hb dX3_go_52 ?_
        refine gx_top (y := nI (st + 1)) (nI_add st 1) ?_
        refine va_put (D := D) (ci := 3) (v := .int (nI (st + 1))) (ty := .int) (C := RX3) (T := TX3) (N := 5) hx hb hts (fun _ h => List.mem_cons_of_mem _ (List.mem_append_left _ (List.mem_append_right _ h))) tyX3 tyX3_ok nmX3 hown hK hP hD hS 0 rfl rfl 2 (by decide) (hts (.fieldLink RX3 30 "LitmusHall$Machine" "steps" "I") (by decide +kernel)) (fun _ h9 => h9) rfl (by decide +kernel) rfl rfl (Nat.le_of_ble_eq_true rfl) dX3_go_53 (fun H locs hP hD hS => ?_)
        have hP : va_P D vwCl [(h0, .inr (3, [.ref s0, v1, .int (nI (st + 1)), .int md, .ref a4])), (a4, .inl (cI, 38, .inl (upd dn st x))), (b2, .inl (cI, 4, .inl cf)), (s0, .inr (7, [.ref s1])), (s1, .inl (cI, 34, .inl e_5)), (p0, .inr (4, [.int (nI nc), .ref b1, .ref b2, .ref b3])), (b1, .inl (cI, 3, .inl (fun j => nI (L j)))), (b3, .inl (cI, 192, .inl pf))] H := hP
        have hD : va_D A [(h0, .inr (3, [.ref s0, v1, .int (nI (st + 1)), .int md, .ref a4])), (a4, .inl (cI, 38, .inl (upd dn st x))), (b2, .inl (cI, 4, .inl cf)), (s0, .inr (7, [.ref s1])), (s1, .inl (cI, 34, .inl e_5)), (p0, .inr (4, [.int (nI nc), .ref b1, .ref b2, .ref b3])), (b1, .inl (cI, 3, .inl (fun j => nI (L j)))), (b3, .inl (cI, 192, .inl pf))] := hD
        refine lv_iconst (v := 1) hx hb dX3_go_56 (by decide) ?_
        have hP := gy_ext hP 4 rfl (gRun pf cf md (upd dn st x) (st + 1)) (fun j _ => by rw [gRun_next, ← hgs])
        have hD := gy_extD (y := .inl (cI, 34, .inl (gRun pf cf md (upd dn st x) (st + 1)))) hD 4 rfl
        have hP : va_P D vwCl [(h0, .inr (3, [.ref s0, v1, .int (nI (st + 1)), .int md, .ref a4])), (a4, .inl (cI, 38, .inl (upd dn st x))), (b2, .inl (cI, 4, .inl cf)), (s0, .inr (7, [.ref s1])), (s1, .inl (cI, 34, .inl (gRun pf cf md (upd dn st x) (st + 1)))), (p0, .inr (4, [.int (nI nc), .ref b1, .ref b2, .ref b3])), (b1, .inl (cI, 3, .inl (fun j => nI (L j)))), (b3, .inl (cI, 192, .inl pf))] H := hP
        have hD : va_D A [(h0, .inr (3, [.ref s0, v1, .int (nI (st + 1)), .int md, .ref a4])), (a4, .inl (cI, 38, .inl (upd dn st x))), (b2, .inl (cI, 4, .inl cf)), (s0, .inr (7, [.ref s1])), (s1, .inl (cI, 34, .inl (gRun pf cf md (upd dn st x) (st + 1)))), (p0, .inr (4, [.int (nI nc), .ref b1, .ref b2, .ref b3])), (b1, .inl (cI, 3, .inl (fun j => nI (L j)))), (b3, .inl (cI, 192, .inl pf))] := hD
        have hP := hP.sub (ws' := [(h0, .inr (3, [.ref s0, v1, .int (nI (st + 1)), .int md, .ref a4])), (s0, .inr (7, [.ref s1])), (s1, .inl (cI, 34, .inl (gRun pf cf md (upd dn st x) (st + 1)))), (a4, .inl (cI, 38, .inl (upd dn st x))), (p0, .inr (4, [.int (nI nc), .ref b1, .ref b2, .ref b3])), (b1, .inl (cI, 3, .inl (fun j => nI (L j)))), (b2, .inl (cI, 4, .inl cf)), (b3, .inl (cI, 192, .inl pf))]) [0, 3, 4, 1, 5, 6, 2, 7] rfl
        have hD := hD.sub (ws' := [(h0, .inr (3, [.ref s0, v1, .int (nI (st + 1)), .int md, .ref a4])), (s0, .inr (7, [.ref s1])), (s1, .inl (cI, 34, .inl (gRun pf cf md (upd dn st x) (st + 1)))), (a4, .inl (cI, 38, .inl (upd dn st x))), (p0, .inr (4, [.int (nI nc), .ref b1, .ref b2, .ref b3])), (b1, .inl (cI, 3, .inl (fun j => nI (L j)))), (b2, .inl (cI, 4, .inl cf)), (b3, .inl (cI, 192, .inl pf))]) [0, 3, 4, 1, 5, 6, 2, 7] (by decide) rfl
        exact gx_zret (w' := [(h0, .inr (3, [.ref s0, v1, .int (nI (st + 1)), .int md, .ref a4])), (s0, .inr (7, [.ref s1])), (s1, .inl (cI, 34, .inl (gRun pf cf md (upd dn st x) (st + 1)))), (a4, .inl (cI, 38, .inl (upd dn st x))), (p0, .inr (4, [.int (nI nc), .ref b1, .ref b2, .ref b3])), (b1, .inl (cI, 3, .inl (fun j => nI (L j)))), (b2, .inl (cI, 4, .inl cf)), (b3, .inl (cI, 192, .inl pf))]) hx hb hr hlk hK hP hD hS (Nat.le_of_ble_eq_true rfl) (Nat.le_of_ble_eq_true rfl) dX3_go_57 rfl ⟨1, (st + 1), (upd dn st x), (Or.inr rfl), (by omega), (gMach_next hM hcn hW9), rfl, rfl⟩
    · refine lv_iconst (v := 0) hx hb dX3_go_21 (by decide) ?_
      have hP := hP.sub (ws' := [(h0, .inr (3, [.ref s0, v1, .int (nI st), .int md, .ref a4])), (s0, .inr (7, [.ref s1])), (s1, .inl (cI, 34, .inl (gRun pf cf md dn st))), (a4, .inl (cI, 38, .inl dn)), (p0, .inr (4, [.int (nI nc), .ref b1, .ref b2, .ref b3])), (b1, .inl (cI, 3, .inl (fun j => nI (L j)))), (b2, .inl (cI, 4, .inl cf)), (b3, .inl (cI, 192, .inl pf))]) [0, 3, 4, 1, 5, 6, 2, 7] rfl
      have hD := hD.sub (ws' := [(h0, .inr (3, [.ref s0, v1, .int (nI st), .int md, .ref a4])), (s0, .inr (7, [.ref s1])), (s1, .inl (cI, 34, .inl (gRun pf cf md dn st))), (a4, .inl (cI, 38, .inl dn)), (p0, .inr (4, [.int (nI nc), .ref b1, .ref b2, .ref b3])), (b1, .inl (cI, 3, .inl (fun j => nI (L j)))), (b2, .inl (cI, 4, .inl cf)), (b3, .inl (cI, 192, .inl pf))]) [0, 3, 4, 1, 5, 6, 2, 7] (by decide) rfl
      exact gx_zret (w' := [(h0, .inr (3, [.ref s0, v1, .int (nI st), .int md, .ref a4])), (s0, .inr (7, [.ref s1])), (s1, .inl (cI, 34, .inl (gRun pf cf md dn st))), (a4, .inl (cI, 38, .inl dn)), (p0, .inr (4, [.int (nI nc), .ref b1, .ref b2, .ref b3])), (b1, .inl (cI, 3, .inl (fun j => nI (L j)))), (b2, .inl (cI, 4, .inl cf)), (b3, .inl (cI, 192, .inl pf))]) hx hb hr hlk hK hP hD hS (Nat.le_of_ble_eq_true rfl) (Nat.le_of_ble_eq_true rfl) dX3_go_22 rfl ⟨0, st, dn, (Or.inl rfl), (by omega), hM, rfl, rfl⟩
def wsP_c_takeBack : List Cond := .code yX3_takeBack cX3_takeBack 3 (some .boolean) :: (([.fieldLink RX3 30 "LitmusHall$Machine" "steps" "I", .fieldLink RX3 12 "LitmusHall$Machine" "state" "LLitmusHall$State;", .methodLink RX3 33 yX7_start, .instanceMethod yX7_start, .selects RX7 yX7_start yX7_start, .initialized RX7, .fieldLink RX3 18 "LitmusHall$Machine" "done" "[I", .fieldLink RX3 26 "LitmusHall$Machine" "mode" "I", .methodLink RX3 41 yX7_move, .instanceMethod yX7_move, .selects RX7 yX7_move yX7_move] ++ wsX30) ++ (wsP_e_start ++ (wsP_e_moveG ++ (wsP_e_moveK ++ []))))
theorem gW_c_takeBack : wsP_c_takeBack.all goodWord = true := by unfold wsP_c_takeBack; exact gw_mk (by decide +kernel) (gw_app gW_e_start (gw_app gW_e_moveG (gw_app gW_e_moveK rfl)))
set_option maxRecDepth 20000 in
theorem gP_c_takeBack__e_start : GoodIn wsP_c_takeBack (wsV RX3 33 RX7 yX7_start wsP_e_start) := gw_in (pre := [.methodLink RX3 33 yX7_start, .instanceMethod yX7_start, .selects RX7 yX7_start yX7_start, .initialized RX7]) (by decide +kernel) (fun _ h => List.mem_cons_of_mem _ (List.mem_append_right _ (List.mem_append_left _ h))) gW_e_start
set_option maxRecDepth 20000 in
theorem gP_c_takeBack__e_moveG : GoodIn wsP_c_takeBack (wsV RX3 41 RX7 yX7_move wsP_e_moveG) := gw_in (pre := [.methodLink RX3 41 yX7_move, .instanceMethod yX7_move, .selects RX7 yX7_move yX7_move, .initialized RX7]) (by decide +kernel) (fun _ h => List.mem_cons_of_mem _ (List.mem_append_right _ (List.mem_append_right _ (List.mem_append_left _ h)))) gW_e_moveG
set_option maxRecDepth 20000 in
theorem gP_c_takeBack__e_moveK : GoodIn wsP_c_takeBack (wsV RX3 41 RX7 yX7_move wsP_e_moveK) := gw_in (pre := [.methodLink RX3 41 yX7_move, .instanceMethod yX7_move, .selects RX7 yX7_move yX7_move, .initialized RX7]) (by decide +kernel) (fun _ h => List.mem_cons_of_mem _ (List.mem_append_right _ (List.mem_append_right _ (List.mem_append_right _ (List.mem_append_left _ h))))) gW_e_moveK
set_option maxHeartbeats 4000000 in
set_option maxRecDepth 100000 in
theorem c_takeBack (l : Launch) (D : va_G) (cI cB cZ : ClassId) (h0 : Nat) (s0 : Nat) (s1 : Nat) (a4 : Nat) (v1 : Value) (st : Nat) (md : Int32) (dn : Nat → Int32) (p0 : Nat) (b1 : Nat) (b2 : Nat) (b3 : Nat) (nc : Nat) (L : Nat → Nat) (cf : Nat → Int32) (pf : Nat → Int32) (hc : nc ≤ 3) (hL : ∀ k, k < 3 → L k ≤ 8) (hI : gG L pf 7) (hst : st ≤ 38) (hM : gMach pf cf md dn L nc st) : gMi l yX3_takeBack wsP_c_takeBack ({ frames := 3, cells := 0, slots := 0, locals := 91 }) D cI cB cZ [] [.ref h0, .ref p0] [(h0, .inr (3, [.ref s0, v1, .int (nI st), .int md, .ref a4])), (s0, .inr (7, [.ref s1])), (s1, .inl (cI, 34, .inl (gRun pf cf md dn st))), (a4, .inl (cI, 38, .inl dn)), (p0, .inr (4, [.int (nI nc), .ref b1, .ref b2, .ref b3])), (b1, .inl (cI, 3, .inl (fun j => nI (L j)))), (b2, .inl (cI, 4, .inl cf)), (b3, .inl (cI, 192, .inl pf))] (fun r9 w9 => ∃ z : Int32, ∃ st9 : Nat, (gZ z) ∧ (st9 ≤ 38) ∧ (gMach pf cf md dn L nc st9) ∧ r9 = z ∧ w9 = [(h0, .inr (3, [.ref s0, v1, .int (nI st9), .int md, .ref a4])), (s0, .inr (7, [.ref s1])), (s1, .inl (cI, 34, .inl (gRun pf cf md dn st9))), (a4, .inl (cI, 38, .inl dn)), (p0, .inr (4, [.int (nI nc), .ref b1, .ref b2, .ref b3])), (b1, .inl (cI, 3, .inl (fun j => nI (L j)))), (b2, .inl (cI, 4, .inl cf)), (b3, .inl (cI, 192, .inl pf))]) := by
  refine gMi.of (cc := cX3_takeBack) (maxL := 3) (ret := (some .boolean)) (by decide) rfl (Nat.le_of_ble_eq_true rfl) (fun p e s m below meth c A ls hx hb hr hlk hml hts hown hin hA hP hK hD hS hN hl => ?_)
  have hown : s.vm.findClass RX3 = some m.cls := hown
  have hl : lv_has ls 3 [(0, .ref h0), (1, .ref p0)] := hl
  refine lv_aload_n hx hb dX3_takeBack_0 rfl (lv_at hl 0 rfl) ?_
  refine va_get (D := D) (ci := 3) (v := .int (nI st)) (C := RX3) (T := TX3) (N := 5) hx hb hts (fun _ h => List.mem_cons_of_mem _ (List.mem_append_left _ (List.mem_append_right _ h))) hown hK hP 0 rfl rfl 2 (by decide) (hts (.fieldLink RX3 30 "LitmusHall$Machine" "steps" "I") (by decide +kernel)) (fun _ h9 => h9) rfl dX3_takeBack_1 ?_
  refine lv_if_ne (tgt := 9) hx hb dX3_takeBack_4 (by decide) (fun c_1i => ?_) (fun c_1i => ?_)
  · have c_1 : st ≠ 0 := fun q9 => c_1i ((nI_eq (a := st) (b := 0) (by omega) (by decide)).mpr q9)
    refine lv_aload_n hx hb dX3_takeBack_9 rfl (lv_at hl 0 rfl) ?_
    refine lv_dup hx hb dX3_takeBack_10 rfl ?_
    refine va_get (D := D) (ci := 3) (v := .int (nI st)) (C := RX3) (T := TX3) (N := 5) hx hb hts (fun _ h => List.mem_cons_of_mem _ (List.mem_append_left _ (List.mem_append_right _ h))) hown hK hP 0 rfl rfl 2 (by decide) (hts (.fieldLink RX3 30 "LitmusHall$Machine" "steps" "I") (by decide +kernel)) (fun _ h9 => h9) rfl dX3_takeBack_11 ?_
    refine lv_iconst (v := 1) hx hb dX3_takeBack_14 (by decide) ?_
    refine lv_isub hx hb dX3_takeBack_15 ?_
    refine gx_top (y := nI (st - 1)) (pk_sub (a := st) (b := 1) (by omega)) ?_
    refine va_put (D := D) (ci := 3) (v := .int (nI (st - 1))) (ty := .int) (C := RX3) (T := TX3) (N := 5) hx hb hts (fun _ h => List.mem_cons_of_mem _ (List.mem_append_left _ (List.mem_append_right _ h))) tyX3 tyX3_ok nmX3 hown hK hP hD hS 0 rfl rfl 2 (by decide) (hts (.fieldLink RX3 30 "LitmusHall$Machine" "steps" "I") (by decide +kernel)) (fun _ h9 => h9) rfl (by decide +kernel) rfl rfl (Nat.le_of_ble_eq_true rfl) dX3_takeBack_16 (fun H locs hP hD hS => ?_)
    have hP : va_P D vwCl [(h0, .inr (3, [.ref s0, v1, .int (nI (st - 1)), .int md, .ref a4])), (s0, .inr (7, [.ref s1])), (s1, .inl (cI, 34, .inl (gRun pf cf md dn st))), (a4, .inl (cI, 38, .inl dn)), (p0, .inr (4, [.int (nI nc), .ref b1, .ref b2, .ref b3])), (b1, .inl (cI, 3, .inl (fun j => nI (L j)))), (b2, .inl (cI, 4, .inl cf)), (b3, .inl (cI, 192, .inl pf))] H := hP
    have hD : va_D A [(h0, .inr (3, [.ref s0, v1, .int (nI (st - 1)), .int md, .ref a4])), (s0, .inr (7, [.ref s1])), (s1, .inl (cI, 34, .inl (gRun pf cf md dn st))), (a4, .inl (cI, 38, .inl dn)), (p0, .inr (4, [.int (nI nc), .ref b1, .ref b2, .ref b3])), (b1, .inl (cI, 3, .inl (fun j => nI (L j)))), (b2, .inl (cI, 4, .inl cf)), (b3, .inl (cI, 192, .inl pf))] := hD
    refine lv_aload_n hx hb dX3_takeBack_19 rfl (lv_at hl 0 rfl) ?_
    refine va_get (D := D) (ci := 3) (v := .ref s0) (C := RX3) (T := TX3) (N := 5) hx hb hts (fun _ h => List.mem_cons_of_mem _ (List.mem_append_left _ (List.mem_append_right _ h))) hown hK hP 0 rfl rfl 0 (by decide) (hts (.fieldLink RX3 12 "LitmusHall$Machine" "state" "LLitmusHall$State;") (by decide +kernel)) (fun _ h9 => h9) rfl dX3_takeBack_20 ?_
    refine lv_aload_n hx hb dX3_takeBack_23 rfl (lv_at hl 1 rfl) ?_
    refine gx_gov (wc := [(s0, .inr (7, [.ref s1])), (s1, .inl (cI, 34, .inl (gRun pf cf md dn st))), (p0, .inr (4, [.int (nI nc), .ref b1, .ref b2, .ref b3])), (b2, .inl (cI, 4, .inl cf))]) (wr := [(h0, .inr (3, [.ref s0, v1, .int (nI (st - 1)), .int md, .ref a4])), (a4, .inl (cI, 38, .inl dn)), (b1, .inl (cI, 3, .inl (fun j => nI (L j)))), (b3, .inl (cI, 192, .inl pf))]) (va_runV (As := [.ref p0]) (rest := []) ⟨hx, hb, hml, hown, hts⟩ (e_start l D cI cB cZ s0 s1 (gRun pf cf md dn st) p0 b2 (.int (nI nc)) (.ref b1) (.ref b3) cf _) (cwV 1 hts gP_c_takeBack__e_start rfl rfl rfl (by decide +kernel) ⟨Nat.le_of_ble_eq_true rfl, Nat.le_of_ble_eq_true rfl⟩) (gx_preV (ci := 7) (q0 := 0) hK gN.nil hP hD [1, 2, 4, 6] rfl rfl rfl rfl) rfl rfl hl.1 rfl (lv_room (Nat.le_of_ble_eq_true rfl)) dX3_takeBack_24 ⟨Nat.le_of_ble_eq_true rfl, Nat.le_of_ble_eq_true rfl⟩) hP hD hS hA [1, 2, 4, 6] [0, 3, 5, 7] rfl rfl rfl (by decide) (fun w1 H locs hp hP hD hS => ?_)
    obtain ⟨rfl⟩ := hp
    have hP : va_P D vwCl [(h0, .inr (3, [.ref s0, v1, .int (nI (st - 1)), .int md, .ref a4])), (a4, .inl (cI, 38, .inl dn)), (b1, .inl (cI, 3, .inl (fun j => nI (L j)))), (b3, .inl (cI, 192, .inl pf)), (s0, .inr (7, [.ref s1])), (s1, .inl (cI, 34, .inl (gS0 cf))), (p0, .inr (4, [.int (nI nc), .ref b1, .ref b2, .ref b3])), (b2, .inl (cI, 4, .inl cf))] H := hP
    have hD : va_D A [(h0, .inr (3, [.ref s0, v1, .int (nI (st - 1)), .int md, .ref a4])), (a4, .inl (cI, 38, .inl dn)), (b1, .inl (cI, 3, .inl (fun j => nI (L j)))), (b3, .inl (cI, 192, .inl pf)), (s0, .inr (7, [.ref s1])), (s1, .inl (cI, 34, .inl (gS0 cf))), (p0, .inr (4, [.int (nI nc), .ref b1, .ref b2, .ref b3])), (b2, .inl (cI, 4, .inl cf))] := hD
    refine lv_iconst (v := 0) hx hb dX3_takeBack_27 (by decide) ?_
    refine lv_istore_n (lv' := [(2, .int 0), (0, .ref h0), (1, .ref p0)]) hx hb dX3_takeBack_28 rfl hl (by decide) rfl (fun ls hl => ?_)
    refine gy_loop0 (I := fun (x9 : Nat) H locs ls => (x9 ≤ st - 1) ∧ va_P D vwCl [(h0, .inr (3, [.ref s0, v1, .int (nI (st - 1)), .int md, .ref a4])), (a4, .inl (cI, 38, .inl dn)), (b1, .inl (cI, 3, .inl (fun j => nI (L j)))), (b3, .inl (cI, 192, .inl pf)), (s0, .inr (7, [.ref s1])), (s1, .inl (cI, 34, .inl (gRun pf cf md dn x9))), (p0, .inr (4, [.int (nI nc), .ref b1, .ref b2, .ref b3])), (b2, .inl (cI, 4, .inl cf))] H ∧ va_D A [(h0, .inr (3, [.ref s0, v1, .int (nI (st - 1)), .int md, .ref a4])), (a4, .inl (cI, 38, .inl dn)), (b1, .inl (cI, 3, .inl (fun j => nI (L j)))), (b3, .inl (cI, 192, .inl pf)), (s0, .inr (7, [.ref s1])), (s1, .inl (cI, 34, .inl (gRun pf cf md dn x9))), (p0, .inr (4, [.int (nI nc), .ref b1, .ref b2, .ref b3])), (b2, .inl (cI, 4, .inl cf))] ∧ va_S A s.heap H locs ∧ lv_has ls 3 [(2, .int (nI x9)), (0, .ref h0), (1, .ref p0)]) (μ := fun (x9 : Nat) => st - x9) (fun x9 H locs ls hI ih29 => ?_) 0 ⟨(by show 0 ≤ st - 1; omega), hP, hD, hS, lv_sub hl [0, 1, 2] rfl⟩
    obtain ⟨i, rfl⟩ : ∃ z9, z9 = x9 := ⟨_, rfl⟩
    obtain ⟨hi29_0, hP, hD, hS, hl⟩ := hI
    have hi29_0 : i ≤ st - 1 := hi29_0
    have hP : va_P D vwCl [(h0, .inr (3, [.ref s0, v1, .int (nI (st - 1)), .int md, .ref a4])), (a4, .inl (cI, 38, .inl dn)), (b1, .inl (cI, 3, .inl (fun j => nI (L j)))), (b3, .inl (cI, 192, .inl pf)), (s0, .inr (7, [.ref s1])), (s1, .inl (cI, 34, .inl (gRun pf cf md dn i))), (p0, .inr (4, [.int (nI nc), .ref b1, .ref b2, .ref b3])), (b2, .inl (cI, 4, .inl cf))] H := hP
    have hD : va_D A [(h0, .inr (3, [.ref s0, v1, .int (nI (st - 1)), .int md, .ref a4])), (a4, .inl (cI, 38, .inl dn)), (b1, .inl (cI, 3, .inl (fun j => nI (L j)))), (b3, .inl (cI, 192, .inl pf)), (s0, .inr (7, [.ref s1])), (s1, .inl (cI, 34, .inl (gRun pf cf md dn i))), (p0, .inr (4, [.int (nI nc), .ref b1, .ref b2, .ref b3])), (b2, .inl (cI, 4, .inl cf))] := hD
    have hS : va_S A s.heap H locs := hS
    have hl : lv_has ls 3 [(2, .int (nI i)), (0, .ref h0), (1, .ref p0)] := hl
    refine lv_iload_n hx hb dX3_takeBack_29 rfl (lv_at hl 0 rfl) ?_
    refine lv_aload_n hx hb dX3_takeBack_30 rfl (lv_at hl 1 rfl) ?_
    refine va_get (D := D) (ci := 3) (v := .int (nI (st - 1))) (C := RX3) (T := TX3) (N := 5) hx hb hts (fun _ h => List.mem_cons_of_mem _ (List.mem_append_left _ (List.mem_append_right _ h))) hown hK hP 0 rfl rfl 2 (by decide) (hts (.fieldLink RX3 30 "LitmusHall$Machine" "steps" "I") (by decide +kernel)) (fun _ h9 => h9) rfl dX3_takeBack_31 ?_
    refine gy_ge (a := i) (b := (st - 1)) (tgt := 61) hx hb (by omega) (by omega) dX3_takeBack_34 (by decide) (fun c_2 => ?_) (fun c_2 => ?_)
    · refine lv_iconst (v := 1) hx hb dX3_takeBack_61 (by decide) ?_
      have hP := gy_ext hP 5 rfl (gRun pf cf md dn (st - 1)) (fun j _ => by rw [show i = st - 1 by omega])
      have hD := gy_extD (y := .inl (cI, 34, .inl (gRun pf cf md dn (st - 1)))) hD 5 rfl
      have hP : va_P D vwCl [(h0, .inr (3, [.ref s0, v1, .int (nI (st - 1)), .int md, .ref a4])), (a4, .inl (cI, 38, .inl dn)), (b1, .inl (cI, 3, .inl (fun j => nI (L j)))), (b3, .inl (cI, 192, .inl pf)), (s0, .inr (7, [.ref s1])), (s1, .inl (cI, 34, .inl (gRun pf cf md dn (st - 1)))), (p0, .inr (4, [.int (nI nc), .ref b1, .ref b2, .ref b3])), (b2, .inl (cI, 4, .inl cf))] H := hP
      have hD : va_D A [(h0, .inr (3, [.ref s0, v1, .int (nI (st - 1)), .int md, .ref a4])), (a4, .inl (cI, 38, .inl dn)), (b1, .inl (cI, 3, .inl (fun j => nI (L j)))), (b3, .inl (cI, 192, .inl pf)), (s0, .inr (7, [.ref s1])), (s1, .inl (cI, 34, .inl (gRun pf cf md dn (st - 1)))), (p0, .inr (4, [.int (nI nc), .ref b1, .ref b2, .ref b3])), (b2, .inl (cI, 4, .inl cf))] := hD
      have hP := hP.sub (ws' := [(h0, .inr (3, [.ref s0, v1, .int (nI (st - 1)), .int md, .ref a4])), (s0, .inr (7, [.ref s1])), (s1, .inl (cI, 34, .inl (gRun pf cf md dn (st - 1)))), (a4, .inl (cI, 38, .inl dn)), (p0, .inr (4, [.int (nI nc), .ref b1, .ref b2, .ref b3])), (b1, .inl (cI, 3, .inl (fun j => nI (L j)))), (b2, .inl (cI, 4, .inl cf)), (b3, .inl (cI, 192, .inl pf))]) [0, 4, 5, 1, 6, 2, 7, 3] rfl
      have hD := hD.sub (ws' := [(h0, .inr (3, [.ref s0, v1, .int (nI (st - 1)), .int md, .ref a4])), (s0, .inr (7, [.ref s1])), (s1, .inl (cI, 34, .inl (gRun pf cf md dn (st - 1)))), (a4, .inl (cI, 38, .inl dn)), (p0, .inr (4, [.int (nI nc), .ref b1, .ref b2, .ref b3])), (b1, .inl (cI, 3, .inl (fun j => nI (L j)))), (b2, .inl (cI, 4, .inl cf)), (b3, .inl (cI, 192, .inl pf))]) [0, 4, 5, 1, 6, 2, 7, 3] (by decide) rfl
      exact gx_zret (w' := [(h0, .inr (3, [.ref s0, v1, .int (nI (st - 1)), .int md, .ref a4])), (s0, .inr (7, [.ref s1])), (s1, .inl (cI, 34, .inl (gRun pf cf md dn (st - 1)))), (a4, .inl (cI, 38, .inl dn)), (p0, .inr (4, [.int (nI nc), .ref b1, .ref b2, .ref b3])), (b1, .inl (cI, 3, .inl (fun j => nI (L j)))), (b2, .inl (cI, 4, .inl cf)), (b3, .inl (cI, 192, .inl pf))]) hx hb hr hlk hK hP hD hS (Nat.le_of_ble_eq_true rfl) (Nat.le_of_ble_eq_true rfl) dX3_takeBack_62 rfl ⟨1, (st - 1), (Or.inr rfl), (by omega), (gMach_pred hM), rfl, rfl⟩
    · rcases hM.1 i (by omega) with ⟨k, hk, ek, hz⟩ | ⟨k, hk, ek, hz⟩
      · have hok := hM.2 i (by omega)
        refine lv_aload_n hx hb dX3_takeBack_37 rfl (lv_at hl 1 rfl) ?_
        refine va_get (D := D) (ci := 3) (v := .ref s0) (C := RX3) (T := TX3) (N := 5) hx hb hts (fun _ h => List.mem_cons_of_mem _ (List.mem_append_left _ (List.mem_append_right _ h))) hown hK hP 0 rfl rfl 0 (by decide) (hts (.fieldLink RX3 12 "LitmusHall$Machine" "state" "LLitmusHall$State;") (by decide +kernel)) (fun _ h9 => h9) rfl dX3_takeBack_38 ?_
        refine lv_aload_n hx hb dX3_takeBack_41 rfl (lv_at hl 2 rfl) ?_
        refine lv_aload_n hx hb dX3_takeBack_42 rfl (lv_at hl 1 rfl) ?_
        refine va_get (D := D) (ci := 3) (v := .ref a4) (C := RX3) (T := TX3) (N := 5) hx hb hts (fun _ h => List.mem_cons_of_mem _ (List.mem_append_left _ (List.mem_append_right _ h))) hown hK hP 0 rfl rfl 4 (by decide) (hts (.fieldLink RX3 18 "LitmusHall$Machine" "done" "[I") (by decide +kernel)) (fun _ h9 => h9) rfl dX3_takeBack_43 ?_
        refine lv_iload_n hx hb dX3_takeBack_46 rfl (lv_at hl 0 rfl) ?_
        refine gy_ild (i := i) hx hb hK hP 1 rfl (by omega) (by omega) dX3_takeBack_47 ?_
        refine gx_top (y := nI (3 + k)) ek ?_
        refine lv_aload_n hx hb dX3_takeBack_48 rfl (lv_at hl 1 rfl) ?_
        refine va_get (D := D) (ci := 3) (v := .int md) (C := RX3) (T := TX3) (N := 5) hx hb hts (fun _ h => List.mem_cons_of_mem _ (List.mem_append_left _ (List.mem_append_right _ h))) hown hK hP 0 rfl rfl 3 (by decide) (hts (.fieldLink RX3 26 "LitmusHall$Machine" "mode" "I") (by decide +kernel)) (fun _ h9 => h9) rfl dX3_takeBack_49 ?_
        refine gx_gov (wc := [(s0, .inr (7, [.ref s1])), (s1, .inl (cI, 34, .inl (gRun pf cf md dn i)))]) (wr := [(h0, .inr (3, [.ref s0, v1, .int (nI (st - 1)), .int md, .ref a4])), (a4, .inl (cI, 38, .inl dn)), (b1, .inl (cI, 3, .inl (fun j => nI (L j)))), (b3, .inl (cI, 192, .inl pf)), (p0, .inr (4, [.int (nI nc), .ref b1, .ref b2, .ref b3])), (b2, .inl (cI, 4, .inl cf))]) (va_runV (As := [.ref p0, .int (nI (3 + k)), .int md]) (rest := []) ⟨hx, hb, hml, hown, hts⟩ (e_moveG l D cI cB cZ s0 s1 (gRun pf cf md dn i) p0 k md (by omega) _) (cwV 3 hts gP_c_takeBack__e_moveG rfl rfl rfl (by decide +kernel) ⟨Nat.le_of_ble_eq_true rfl, Nat.le_of_ble_eq_true rfl⟩) (gx_preV (ci := 7) (q0 := 0) hK gN.nil hP hD [4, 5] rfl rfl rfl rfl) rfl rfl hl.1 rfl (lv_room (Nat.le_of_ble_eq_true rfl)) dX3_takeBack_52 ⟨Nat.le_of_ble_eq_true rfl, Nat.le_of_ble_eq_true rfl⟩) hP hD hS hA [4, 5] [0, 1, 2, 3, 6, 7] rfl rfl rfl (by decide) (fun w1 H locs hp hP hD hS => ?_)
        obtain ⟨rfl⟩ := hp
        have hP : va_P D vwCl [(h0, .inr (3, [.ref s0, v1, .int (nI (st - 1)), .int md, .ref a4])), (a4, .inl (cI, 38, .inl dn)), (b1, .inl (cI, 3, .inl (fun j => nI (L j)))), (b3, .inl (cI, 192, .inl pf)), (p0, .inr (4, [.int (nI nc), .ref b1, .ref b2, .ref b3])), (b2, .inl (cI, 4, .inl cf)), (s0, .inr (7, [.ref s1])), (s1, .inl (cI, 34, .inl (gLg (gRun pf cf md dn i) k)))] H := hP
        have hD : va_D A [(h0, .inr (3, [.ref s0, v1, .int (nI (st - 1)), .int md, .ref a4])), (a4, .inl (cI, 38, .inl dn)), (b1, .inl (cI, 3, .inl (fun j => nI (L j)))), (b3, .inl (cI, 192, .inl pf)), (p0, .inr (4, [.int (nI nc), .ref b1, .ref b2, .ref b3])), (b2, .inl (cI, 4, .inl cf)), (s0, .inr (7, [.ref s1])), (s1, .inl (cI, 34, .inl (gLg (gRun pf cf md dn i) k)))] := hD
        have hP := gy_ext hP 7 rfl (gRun pf cf md dn (i + 1)) (fun j _ => congrFun (show gLg (gRun pf cf md dn i) k = gStep pf md (gRun pf cf md dn i) (dn i) by rw [ek]; exact (gStep_G hk).symm) j)
        have hD := gy_extD (y := .inl (cI, 34, .inl (gRun pf cf md dn (i + 1)))) hD 7 rfl
        have hP : va_P D vwCl [(h0, .inr (3, [.ref s0, v1, .int (nI (st - 1)), .int md, .ref a4])), (a4, .inl (cI, 38, .inl dn)), (b1, .inl (cI, 3, .inl (fun j => nI (L j)))), (b3, .inl (cI, 192, .inl pf)), (p0, .inr (4, [.int (nI nc), .ref b1, .ref b2, .ref b3])), (b2, .inl (cI, 4, .inl cf)), (s0, .inr (7, [.ref s1])), (s1, .inl (cI, 34, .inl (gRun pf cf md dn (i + 1))))] H := hP
        have hD : va_D A [(h0, .inr (3, [.ref s0, v1, .int (nI (st - 1)), .int md, .ref a4])), (a4, .inl (cI, 38, .inl dn)), (b1, .inl (cI, 3, .inl (fun j => nI (L j)))), (b3, .inl (cI, 192, .inl pf)), (p0, .inr (4, [.int (nI nc), .ref b1, .ref b2, .ref b3])), (b2, .inl (cI, 4, .inl cf)), (s0, .inr (7, [.ref s1])), (s1, .inl (cI, 34, .inl (gRun pf cf md dn (i + 1))))] := hD
        refine lv_iinc (v := nI (i + 1)) (lv' := [(2, .int (nI (i + 1))), (0, .ref h0), (1, .ref p0)]) hx hb dX3_takeBack_55 hl (k := 0) rfl (nI_add i 1) (by decide) rfl (fun ls hl => ?_)
        refine lv_goto (tgt := 29) hx hb dX3_takeBack_58 (by decide) ?_
        have hP := hP.sub (ws' := [(h0, .inr (3, [.ref s0, v1, .int (nI (st - 1)), .int md, .ref a4])), (a4, .inl (cI, 38, .inl dn)), (b1, .inl (cI, 3, .inl (fun j => nI (L j)))), (b3, .inl (cI, 192, .inl pf)), (s0, .inr (7, [.ref s1])), (s1, .inl (cI, 34, .inl (gRun pf cf md dn (i + 1)))), (p0, .inr (4, [.int (nI nc), .ref b1, .ref b2, .ref b3])), (b2, .inl (cI, 4, .inl cf))]) [0, 1, 2, 3, 6, 7, 4, 5] rfl
        have hD := hD.sub (ws' := [(h0, .inr (3, [.ref s0, v1, .int (nI (st - 1)), .int md, .ref a4])), (a4, .inl (cI, 38, .inl dn)), (b1, .inl (cI, 3, .inl (fun j => nI (L j)))), (b3, .inl (cI, 192, .inl pf)), (s0, .inr (7, [.ref s1])), (s1, .inl (cI, 34, .inl (gRun pf cf md dn (i + 1)))), (p0, .inr (4, [.int (nI nc), .ref b1, .ref b2, .ref b3])), (b2, .inl (cI, 4, .inl cf))]) [0, 1, 2, 3, 6, 7, 4, 5] (by decide) rfl
        exact ih29 (i + 1) H locs ls ⟨(by show (i + 1) ≤ st - 1; omega), hP, hD, hS, lv_sub hl [0, 1, 2] rfl⟩ (by show st - (i + 1) < st - i; omega)
      · have hok := hM.2 i (by omega)
        refine lv_aload_n hx hb dX3_takeBack_37 rfl (lv_at hl 1 rfl) ?_
        refine va_get (D := D) (ci := 3) (v := .ref s0) (C := RX3) (T := TX3) (N := 5) hx hb hts (fun _ h => List.mem_cons_of_mem _ (List.mem_append_left _ (List.mem_append_right _ h))) hown hK hP 0 rfl rfl 0 (by decide) (hts (.fieldLink RX3 12 "LitmusHall$Machine" "state" "LLitmusHall$State;") (by decide +kernel)) (fun _ h9 => h9) rfl dX3_takeBack_38 ?_
        refine lv_aload_n hx hb dX3_takeBack_41 rfl (lv_at hl 2 rfl) ?_
        refine lv_aload_n hx hb dX3_takeBack_42 rfl (lv_at hl 1 rfl) ?_
        refine va_get (D := D) (ci := 3) (v := .ref a4) (C := RX3) (T := TX3) (N := 5) hx hb hts (fun _ h => List.mem_cons_of_mem _ (List.mem_append_left _ (List.mem_append_right _ h))) hown hK hP 0 rfl rfl 4 (by decide) (hts (.fieldLink RX3 18 "LitmusHall$Machine" "done" "[I") (by decide +kernel)) (fun _ h9 => h9) rfl dX3_takeBack_43 ?_
        refine lv_iload_n hx hb dX3_takeBack_46 rfl (lv_at hl 0 rfl) ?_
        refine gy_ild (i := i) hx hb hK hP 1 rfl (by omega) (by omega) dX3_takeBack_47 ?_
        refine gx_top (y := nI k) ek ?_
        refine lv_aload_n hx hb dX3_takeBack_48 rfl (lv_at hl 1 rfl) ?_
        refine va_get (D := D) (ci := 3) (v := .int md) (C := RX3) (T := TX3) (N := 5) hx hb hts (fun _ h => List.mem_cons_of_mem _ (List.mem_append_left _ (List.mem_append_right _ h))) hown hK hP 0 rfl rfl 3 (by decide) (hts (.fieldLink RX3 26 "LitmusHall$Machine" "mode" "I") (by decide +kernel)) (fun _ h9 => h9) rfl dX3_takeBack_49 ?_
        refine gx_gov (wc := [(s0, .inr (7, [.ref s1])), (s1, .inl (cI, 34, .inl (gRun pf cf md dn i))), (p0, .inr (4, [.int (nI nc), .ref b1, .ref b2, .ref b3])), (b1, .inl (cI, 3, .inl (fun j => nI (L j)))), (b3, .inl (cI, 192, .inl pf))]) (wr := [(h0, .inr (3, [.ref s0, v1, .int (nI (st - 1)), .int md, .ref a4])), (a4, .inl (cI, 38, .inl dn)), (b2, .inl (cI, 4, .inl cf))]) (va_runV (As := [.ref p0, .int (nI k), .int md]) (rest := []) ⟨hx, hb, hml, hown, hts⟩ (e_moveK l D cI cB cZ s0 s1 (gRun pf cf md dn i) p0 b1 b3 (.ref b2) nc L pf k (gNx ((gRun pf cf md dn i) (13 + k))) (((k * 8) + gNx ((gRun pf cf md dn i) (13 + k))) * 8) 7 md (by omega) hL (by omega) rfl hz rfl (by have := hL k (by omega); omega) (hI k (by omega) _ hz) hok _) (cwV 3 hts gP_c_takeBack__e_moveK rfl rfl rfl (by decide +kernel) ⟨Nat.le_of_ble_eq_true rfl, Nat.le_of_ble_eq_true rfl⟩) (gx_preV (ci := 7) (q0 := 0) hK gN.nil hP hD [4, 5, 6, 2, 3] rfl rfl rfl rfl) rfl rfl hl.1 rfl (lv_room (Nat.le_of_ble_eq_true rfl)) dX3_takeBack_52 ⟨Nat.le_of_ble_eq_true rfl, Nat.le_of_ble_eq_true rfl⟩) hP hD hS hA [4, 5, 6, 2, 3] [0, 1, 7] rfl rfl rfl (by decide) (fun w1 H locs hp hP hD hS => ?_)
        obtain ⟨gk, hq_3, hq_4, rfl⟩ := hp
        have hq_3 : gOkW gk := hq_3
        have hq_4 : gk = gMK pf (gRun pf cf md dn i) k (((k * 8) + gNx ((gRun pf cf md dn i) (13 + k))) * 8) md := hq_4
        have hP : va_P D vwCl [(h0, .inr (3, [.ref s0, v1, .int (nI (st - 1)), .int md, .ref a4])), (a4, .inl (cI, 38, .inl dn)), (b2, .inl (cI, 4, .inl cf)), (s0, .inr (7, [.ref s1])), (s1, .inl (cI, 34, .inl gk)), (p0, .inr (4, [.int (nI nc), .ref b1, .ref b2, .ref b3])), (b1, .inl (cI, 3, .inl (fun j => nI (L j)))), (b3, .inl (cI, 192, .inl pf))] H := hP
        have hD : va_D A [(h0, .inr (3, [.ref s0, v1, .int (nI (st - 1)), .int md, .ref a4])), (a4, .inl (cI, 38, .inl dn)), (b2, .inl (cI, 4, .inl cf)), (s0, .inr (7, [.ref s1])), (s1, .inl (cI, 34, .inl gk)), (p0, .inr (4, [.int (nI nc), .ref b1, .ref b2, .ref b3])), (b1, .inl (cI, 3, .inl (fun j => nI (L j)))), (b3, .inl (cI, 192, .inl pf))] := hD
        have hP := gy_ext hP 4 rfl (gRun pf cf md dn (i + 1)) (fun j _ => congrFun (show gk = gStep pf md (gRun pf cf md dn i) (dn i) by rw [ek, gStep_K (show k < 3 by omega)]; exact hq_4) j)
        have hD := gy_extD (y := .inl (cI, 34, .inl (gRun pf cf md dn (i + 1)))) hD 4 rfl
        have hP : va_P D vwCl [(h0, .inr (3, [.ref s0, v1, .int (nI (st - 1)), .int md, .ref a4])), (a4, .inl (cI, 38, .inl dn)), (b2, .inl (cI, 4, .inl cf)), (s0, .inr (7, [.ref s1])), (s1, .inl (cI, 34, .inl (gRun pf cf md dn (i + 1)))), (p0, .inr (4, [.int (nI nc), .ref b1, .ref b2, .ref b3])), (b1, .inl (cI, 3, .inl (fun j => nI (L j)))), (b3, .inl (cI, 192, .inl pf))] H := hP
        have hD : va_D A [(h0, .inr (3, [.ref s0, v1, .int (nI (st - 1)), .int md, .ref a4])), (a4, .inl (cI, 38, .inl dn)), (b2, .inl (cI, 4, .inl cf)), (s0, .inr (7, [.ref s1])), (s1, .inl (cI, 34, .inl (gRun pf cf md dn (i + 1)))), (p0, .inr (4, [.int (nI nc), .ref b1, .ref b2, .ref b3])), (b1, .inl (cI, 3, .inl (fun j => nI (L j)))), (b3, .inl (cI, 192, .inl pf))] := hD
        refine lv_iinc (v := nI (i + 1)) (lv' := [(2, .int (nI (i + 1))), (0, .ref h0), (1, .ref p0)]) hx hb dX3_takeBack_55 hl (k := 0) rfl (nI_add i 1) (by decide) rfl (fun ls hl => ?_)
        refine lv_goto (tgt := 29) hx hb dX3_takeBack_58 (by decide) ?_
        have hP := hP.sub (ws' := [(h0, .inr (3, [.ref s0, v1, .int (nI (st - 1)), .int md, .ref a4])), (a4, .inl (cI, 38, .inl dn)), (b1, .inl (cI, 3, .inl (fun j => nI (L j)))), (b3, .inl (cI, 192, .inl pf)), (s0, .inr (7, [.ref s1])), (s1, .inl (cI, 34, .inl (gRun pf cf md dn (i + 1)))), (p0, .inr (4, [.int (nI nc), .ref b1, .ref b2, .ref b3])), (b2, .inl (cI, 4, .inl cf))]) [0, 1, 6, 7, 3, 4, 5, 2] rfl
        have hD := hD.sub (ws' := [(h0, .inr (3, [.ref s0, v1, .int (nI (st - 1)), .int md, .ref a4])), (a4, .inl (cI, 38, .inl dn)), (b1, .inl (cI, 3, .inl (fun j => nI (L j)))), (b3, .inl (cI, 192, .inl pf)), (s0, .inr (7, [.ref s1])), (s1, .inl (cI, 34, .inl (gRun pf cf md dn (i + 1)))), (p0, .inr (4, [.int (nI nc), .ref b1, .ref b2, .ref b3])), (b2, .inl (cI, 4, .inl cf))]) [0, 1, 6, 7, 3, 4, 5, 2] (by decide) rfl
        exact ih29 (i + 1) H locs ls ⟨(by show (i + 1) ≤ st - 1; omega), hP, hD, hS, lv_sub hl [0, 1, 2] rfl⟩ (by show st - (i + 1) < st - i; omega)
  · have c_1 : st = 0 := (nI_eq (a := st) (b := 0) (by omega) (by decide)).mp c_1i
    refine lv_iconst (v := 0) hx hb dX3_takeBack_7 (by decide) ?_
    exact gx_zret (w' := [(h0, .inr (3, [.ref s0, v1, .int (nI st), .int md, .ref a4])), (s0, .inr (7, [.ref s1])), (s1, .inl (cI, 34, .inl (gRun pf cf md dn st))), (a4, .inl (cI, 38, .inl dn)), (p0, .inr (4, [.int (nI nc), .ref b1, .ref b2, .ref b3])), (b1, .inl (cI, 3, .inl (fun j => nI (L j)))), (b2, .inl (cI, 4, .inl cf)), (b3, .inl (cI, 192, .inl pf))]) hx hb hr hlk hK hP hD hS (Nat.le_of_ble_eq_true rfl) (Nat.le_of_ble_eq_true rfl) dX3_takeBack_8 rfl ⟨0, st, (Or.inl rfl), (by omega), hM, rfl, rfl⟩
def wsP_e_mstart : List Cond := .code yX3_start cX3_start 3 none :: (([.fieldLink RX3 22 "LitmusHall$Machine" "stands" "Z", .fieldLink RX3 26 "LitmusHall$Machine" "mode" "I", .fieldLink RX3 30 "LitmusHall$Machine" "steps" "I", .fieldLink RX3 12 "LitmusHall$Machine" "state" "LLitmusHall$State;", .methodLink RX3 33 yX7_start, .instanceMethod yX7_start, .selects RX7 yX7_start yX7_start, .initialized RX7] ++ wsX30) ++ (wsP_e_start ++ []))
theorem gW_e_mstart : wsP_e_mstart.all goodWord = true := by unfold wsP_e_mstart; exact gw_mk (by decide +kernel) (gw_app gW_e_start rfl)
set_option maxRecDepth 20000 in
theorem gP_e_mstart__e_start : GoodIn wsP_e_mstart (wsV RX3 33 RX7 yX7_start wsP_e_start) := gw_in (pre := [.methodLink RX3 33 yX7_start, .instanceMethod yX7_start, .selects RX7 yX7_start yX7_start, .initialized RX7]) (by decide +kernel) (fun _ h => List.mem_cons_of_mem _ (List.mem_append_right _ (List.mem_append_left _ h))) gW_e_start
set_option maxHeartbeats 4000000 in
set_option maxRecDepth 100000 in
theorem e_mstart (l : Launch) (D : va_G) (cI cB cZ : ClassId) (h0 : Nat) (s0 : Nat) (s1 : Nat) (p0 : Nat) (b2 : Nat) (v1 : Int32) (v2 : Int32) (v3 : Int32) (v4 : Value) (w0 : Value) (w1 : Value) (w3 : Value) (f : Nat → Int32) (cf : Nat → Int32) (x : Int32)  : gMv l yX3_start wsP_e_mstart ({ frames := 2, cells := 0, slots := 0, locals := 61 }) D cI cB cZ [] [.ref h0, .ref p0, .int x] [(h0, .inr (3, [.ref s0, .int v1, .int v2, .int v3, v4])), (s0, .inr (7, [.ref s1])), (s1, .inl (cI, 34, .inl f)), (p0, .inr (4, [w0, w1, .ref b2, w3])), (b2, .inl (cI, 4, .inl cf))] (fun w9 => w9 = [(h0, .inr (3, [.ref s0, .int 1, .int 0, .int x, v4])), (s0, .inr (7, [.ref s1])), (s1, .inl (cI, 34, .inl (gS0 cf))), (p0, .inr (4, [w0, w1, .ref b2, w3])), (b2, .inl (cI, 4, .inl cf))]) := by
  refine gMv.of (cc := cX3_start) (maxL := 3) (ret := none) (by decide) rfl (Nat.le_of_ble_eq_true rfl) (fun p e s m below meth c A ls hx hb hr hlk hml hts hown hin hA hP hK hD hS hN hl => ?_)
  have hown : s.vm.findClass RX3 = some m.cls := hown
  have hl : lv_has ls 3 [(0, .ref h0), (1, .ref p0), (2, .int x)] := hl
  refine lv_aload_n hx hb dX3_start_0 rfl (lv_at hl 0 rfl) ?_
  refine lv_iconst (v := 1) hx hb dX3_start_1 (by decide) ?_
  refine va_put (D := D) (ci := 3) (v := .int 1) (ty := .boolean) (C := RX3) (T := TX3) (N := 5) hx hb hts (fun _ h => List.mem_cons_of_mem _ (List.mem_append_left _ (List.mem_append_right _ h))) tyX3 tyX3_ok nmX3 hown hK hP hD hS 0 rfl rfl 1 (by decide) (hts (.fieldLink RX3 22 "LitmusHall$Machine" "stands" "Z") (by decide +kernel)) (fun _ h9 => h9) rfl (by decide +kernel) rfl rfl (Nat.le_of_ble_eq_true rfl) dX3_start_2 (fun H locs hP hD hS => ?_)
  have hP : va_P D vwCl [(h0, .inr (3, [.ref s0, .int 1, .int v2, .int v3, v4])), (s0, .inr (7, [.ref s1])), (s1, .inl (cI, 34, .inl f)), (p0, .inr (4, [w0, w1, .ref b2, w3])), (b2, .inl (cI, 4, .inl cf))] H := hP
  have hD : va_D A [(h0, .inr (3, [.ref s0, .int 1, .int v2, .int v3, v4])), (s0, .inr (7, [.ref s1])), (s1, .inl (cI, 34, .inl f)), (p0, .inr (4, [w0, w1, .ref b2, w3])), (b2, .inl (cI, 4, .inl cf))] := hD
  refine lv_aload_n hx hb dX3_start_5 rfl (lv_at hl 0 rfl) ?_
  refine lv_iload_n hx hb dX3_start_6 rfl (lv_at hl 2 rfl) ?_
  refine va_put (D := D) (ci := 3) (v := .int x) (ty := .int) (C := RX3) (T := TX3) (N := 5) hx hb hts (fun _ h => List.mem_cons_of_mem _ (List.mem_append_left _ (List.mem_append_right _ h))) tyX3 tyX3_ok nmX3 hown hK hP hD hS 0 rfl rfl 3 (by decide) (hts (.fieldLink RX3 26 "LitmusHall$Machine" "mode" "I") (by decide +kernel)) (fun _ h9 => h9) rfl (by decide +kernel) rfl rfl (Nat.le_of_ble_eq_true rfl) dX3_start_7 (fun H locs hP hD hS => ?_)
  have hP : va_P D vwCl [(h0, .inr (3, [.ref s0, .int 1, .int v2, .int x, v4])), (s0, .inr (7, [.ref s1])), (s1, .inl (cI, 34, .inl f)), (p0, .inr (4, [w0, w1, .ref b2, w3])), (b2, .inl (cI, 4, .inl cf))] H := hP
  have hD : va_D A [(h0, .inr (3, [.ref s0, .int 1, .int v2, .int x, v4])), (s0, .inr (7, [.ref s1])), (s1, .inl (cI, 34, .inl f)), (p0, .inr (4, [w0, w1, .ref b2, w3])), (b2, .inl (cI, 4, .inl cf))] := hD
  refine lv_aload_n hx hb dX3_start_10 rfl (lv_at hl 0 rfl) ?_
  refine lv_iconst (v := 0) hx hb dX3_start_11 (by decide) ?_
  refine va_put (D := D) (ci := 3) (v := .int 0) (ty := .int) (C := RX3) (T := TX3) (N := 5) hx hb hts (fun _ h => List.mem_cons_of_mem _ (List.mem_append_left _ (List.mem_append_right _ h))) tyX3 tyX3_ok nmX3 hown hK hP hD hS 0 rfl rfl 2 (by decide) (hts (.fieldLink RX3 30 "LitmusHall$Machine" "steps" "I") (by decide +kernel)) (fun _ h9 => h9) rfl (by decide +kernel) rfl rfl (Nat.le_of_ble_eq_true rfl) dX3_start_12 (fun H locs hP hD hS => ?_)
  have hP : va_P D vwCl [(h0, .inr (3, [.ref s0, .int 1, .int 0, .int x, v4])), (s0, .inr (7, [.ref s1])), (s1, .inl (cI, 34, .inl f)), (p0, .inr (4, [w0, w1, .ref b2, w3])), (b2, .inl (cI, 4, .inl cf))] H := hP
  have hD : va_D A [(h0, .inr (3, [.ref s0, .int 1, .int 0, .int x, v4])), (s0, .inr (7, [.ref s1])), (s1, .inl (cI, 34, .inl f)), (p0, .inr (4, [w0, w1, .ref b2, w3])), (b2, .inl (cI, 4, .inl cf))] := hD
  refine lv_aload_n hx hb dX3_start_15 rfl (lv_at hl 0 rfl) ?_
  refine va_get (D := D) (ci := 3) (v := .ref s0) (C := RX3) (T := TX3) (N := 5) hx hb hts (fun _ h => List.mem_cons_of_mem _ (List.mem_append_left _ (List.mem_append_right _ h))) hown hK hP 0 rfl rfl 0 (by decide) (hts (.fieldLink RX3 12 "LitmusHall$Machine" "state" "LLitmusHall$State;") (by decide +kernel)) (fun _ h9 => h9) rfl dX3_start_16 ?_
  refine lv_aload_n hx hb dX3_start_19 rfl (lv_at hl 1 rfl) ?_
  refine gx_gov (wc := [(s0, .inr (7, [.ref s1])), (s1, .inl (cI, 34, .inl f)), (p0, .inr (4, [w0, w1, .ref b2, w3])), (b2, .inl (cI, 4, .inl cf))]) (wr := [(h0, .inr (3, [.ref s0, .int 1, .int 0, .int x, v4]))]) (va_runV (As := [.ref p0]) (rest := []) ⟨hx, hb, hml, hown, hts⟩ (e_start l D cI cB cZ s0 s1 f p0 b2 (w0) (w1) (w3) cf _) (cwV 1 hts gP_e_mstart__e_start rfl rfl rfl (by decide +kernel) ⟨Nat.le_of_ble_eq_true rfl, Nat.le_of_ble_eq_true rfl⟩) (gx_preV (ci := 7) (q0 := 0) hK gN.nil hP hD [1, 2, 3, 4] rfl rfl rfl rfl) rfl rfl hl.1 rfl (lv_room (Nat.le_of_ble_eq_true rfl)) dX3_start_20 ⟨Nat.le_of_ble_eq_true rfl, Nat.le_of_ble_eq_true rfl⟩) hP hD hS hA [1, 2, 3, 4] [0] rfl rfl rfl (by decide) (fun w1 H locs hp hP hD hS => ?_)
  obtain ⟨rfl⟩ := hp
  have hP : va_P D vwCl [(h0, .inr (3, [.ref s0, .int 1, .int 0, .int x, v4])), (s0, .inr (7, [.ref s1])), (s1, .inl (cI, 34, .inl (gS0 cf))), (p0, .inr (4, [w0, w1, .ref b2, w3])), (b2, .inl (cI, 4, .inl cf))] H := hP
  have hD : va_D A [(h0, .inr (3, [.ref s0, .int 1, .int 0, .int x, v4])), (s0, .inr (7, [.ref s1])), (s1, .inl (cI, 34, .inl (gS0 cf))), (p0, .inr (4, [w0, w1, .ref b2, w3])), (b2, .inl (cI, 4, .inl cf))] := hD
  exact gx_vret (w' := [(h0, .inr (3, [.ref s0, .int 1, .int 0, .int x, v4])), (s0, .inr (7, [.ref s1])), (s1, .inl (cI, 34, .inl (gS0 cf))), (p0, .inr (4, [w0, w1, .ref b2, w3])), (b2, .inl (cI, 4, .inl cf))]) hx hb hr hlk hK hP hD hS (Nat.le_of_ble_eq_true rfl) (Nat.le_of_ble_eq_true rfl) dX3_start_23 rfl
