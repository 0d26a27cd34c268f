theorem dX5_isRace_0 : decode cX5_isRace 0 = .ok (.iconst 0, 1) := by decide +kernel
theorem dX5_isRace_1 : decode cX5_isRace 1 = .ok (.istore_n 3, 1) := by decide +kernel
theorem dX5_isRace_10 : decode cX5_isRace 10 = .ok (.aload_n 1, 1) := by decide +kernel
theorem dX5_isRace_100 : decode cX5_isRace 100 = .ok (.iconst 0, 1) := by decide +kernel
theorem dX5_isRace_101 : decode cX5_isRace 101 = .ok (.ireturn, 1) := by decide +kernel
theorem dX5_isRace_11 : decode cX5_isRace 11 = .ok (.aload_n 2, 1) := by decide +kernel
theorem dX5_isRace_12 : decode cX5_isRace 12 = .ok (.iload_n 3, 1) := by decide +kernel
theorem dX5_isRace_13 : decode cX5_isRace 13 = .ok (.invokestatic 63, 3) := by decide +kernel
theorem dX5_isRace_16 : decode cX5_isRace 16 = .ok (.istore 4, 2) := by decide +kernel
theorem dX5_isRace_18 : decode cX5_isRace 18 = .ok (.iload 4, 2) := by decide +kernel
theorem dX5_isRace_2 : decode cX5_isRace 2 = .ok (.iload_n 3, 1) := by decide +kernel
theorem dX5_isRace_20 : decode cX5_isRace 20 = .ok (.iconst (-1), 1) := by decide +kernel
theorem dX5_isRace_21 : decode cX5_isRace 21 = .ok (.if_icmp .eq 73, 3) := by decide +kernel
theorem dX5_isRace_24 : decode cX5_isRace 24 = .ok (.aload_n 2, 1) := by decide +kernel
theorem dX5_isRace_25 : decode cX5_isRace 25 = .ok (.iload_n 3, 1) := by decide +kernel
theorem dX5_isRace_26 : decode cX5_isRace 26 = .ok (.invokevirtual 67, 3) := by decide +kernel
theorem dX5_isRace_29 : decode cX5_isRace 29 = .ok (.iconst 1, 1) := by decide +kernel
theorem dX5_isRace_3 : decode cX5_isRace 3 = .ok (.aload_n 1, 1) := by decide +kernel
theorem dX5_isRace_30 : decode cX5_isRace 30 = .ok (.iload 4, 2) := by decide +kernel
theorem dX5_isRace_32 : decode cX5_isRace 32 = .ok (.ishl, 1) := by decide +kernel
theorem dX5_isRace_33 : decode cX5_isRace 33 = .ok (.iconst (-1), 1) := by decide +kernel
theorem dX5_isRace_34 : decode cX5_isRace 34 = .ok (.ixor, 1) := by decide +kernel
theorem dX5_isRace_35 : decode cX5_isRace 35 = .ok (.iand, 1) := by decide +kernel
theorem dX5_isRace_36 : decode cX5_isRace 36 = .ok (.ifCond .eq 58, 3) := by decide +kernel
theorem dX5_isRace_39 : decode cX5_isRace 39 = .ok (.iconst 0, 1) := by decide +kernel
theorem dX5_isRace_4 : decode cX5_isRace 4 = .ok (.getfield 58, 3) := by decide +kernel
theorem dX5_isRace_40 : decode cX5_isRace 40 = .ok (.istore 5, 2) := by decide +kernel
theorem dX5_isRace_42 : decode cX5_isRace 42 = .ok (.iload 5, 2) := by decide +kernel
theorem dX5_isRace_44 : decode cX5_isRace 44 = .ok (.aload_n 1, 1) := by decide +kernel
theorem dX5_isRace_45 : decode cX5_isRace 45 = .ok (.getfield 58, 3) := by decide +kernel
theorem dX5_isRace_48 : decode cX5_isRace 48 = .ok (.if_icmp .ge 46, 3) := by decide +kernel
theorem dX5_isRace_51 : decode cX5_isRace 51 = .ok (.iload 5, 2) := by decide +kernel
theorem dX5_isRace_53 : decode cX5_isRace 53 = .ok (.iload_n 3, 1) := by decide +kernel
theorem dX5_isRace_54 : decode cX5_isRace 54 = .ok (.if_icmp .eq 34, 3) := by decide +kernel
theorem dX5_isRace_57 : decode cX5_isRace 57 = .ok (.aload_n 1, 1) := by decide +kernel
theorem dX5_isRace_58 : decode cX5_isRace 58 = .ok (.aload_n 2, 1) := by decide +kernel
theorem dX5_isRace_59 : decode cX5_isRace 59 = .ok (.iload 5, 2) := by decide +kernel
theorem dX5_isRace_61 : decode cX5_isRace 61 = .ok (.iload 4, 2) := by decide +kernel
theorem dX5_isRace_63 : decode cX5_isRace 63 = .ok (.invokestatic 72, 3) := by decide +kernel
theorem dX5_isRace_66 : decode cX5_isRace 66 = .ok (.ifCond .eq 22, 3) := by decide +kernel
theorem dX5_isRace_69 : decode cX5_isRace 69 = .ok (.aload_n 0, 1) := by decide +kernel
theorem dX5_isRace_7 : decode cX5_isRace 7 = .ok (.if_icmp .ge 93, 3) := by decide +kernel
theorem dX5_isRace_70 : decode cX5_isRace 70 = .ok (.iload_n 3, 1) := by decide +kernel
theorem dX5_isRace_71 : decode cX5_isRace 71 = .ok (.putfield 76, 3) := by decide +kernel
theorem dX5_isRace_74 : decode cX5_isRace 74 = .ok (.aload_n 0, 1) := by decide +kernel
theorem dX5_isRace_75 : decode cX5_isRace 75 = .ok (.iload 5, 2) := by decide +kernel
theorem dX5_isRace_77 : decode cX5_isRace 77 = .ok (.putfield 79, 3) := by decide +kernel
theorem dX5_isRace_80 : decode cX5_isRace 80 = .ok (.aload_n 0, 1) := by decide +kernel
theorem dX5_isRace_81 : decode cX5_isRace 81 = .ok (.iload 4, 2) := by decide +kernel
theorem dX5_isRace_83 : decode cX5_isRace 83 = .ok (.putfield 82, 3) := by decide +kernel
theorem dX5_isRace_86 : decode cX5_isRace 86 = .ok (.iconst 1, 1) := by decide +kernel
theorem dX5_isRace_87 : decode cX5_isRace 87 = .ok (.ireturn, 1) := by decide +kernel
theorem dX5_isRace_88 : decode cX5_isRace 88 = .ok (.iinc 5 1, 3) := by decide +kernel
theorem dX5_isRace_91 : decode cX5_isRace 91 = .ok (.goto (-49), 3) := by decide +kernel
theorem dX5_isRace_94 : decode cX5_isRace 94 = .ok (.iinc 3 1, 3) := by decide +kernel
theorem dX5_isRace_97 : decode cX5_isRace 97 = .ok (.goto (-95), 3) := by decide +kernel
theorem dX5_loadedCell_0 : decode cX5_loadedCell 0 = .ok (.aload_n 1, 1) := by decide +kernel
theorem dX5_loadedCell_1 : decode cX5_loadedCell 1 = .ok (.iload_n 2, 1) := by decide +kernel
theorem dX5_loadedCell_11 : decode cX5_loadedCell 11 = .ok (.iload_n 2, 1) := by decide +kernel
theorem dX5_loadedCell_12 : decode cX5_loadedCell 12 = .ok (.iaload, 1) := by decide +kernel
theorem dX5_loadedCell_13 : decode cX5_loadedCell 13 = .ok (.if_icmp .ge 17, 3) := by decide +kernel
theorem dX5_loadedCell_16 : decode cX5_loadedCell 16 = .ok (.aload_n 0, 1) := by decide +kernel
theorem dX5_loadedCell_17 : decode cX5_loadedCell 17 = .ok (.iload_n 2, 1) := by decide +kernel
theorem dX5_loadedCell_18 : decode cX5_loadedCell 18 = .ok (.iload_n 3, 1) := by decide +kernel
theorem dX5_loadedCell_19 : decode cX5_loadedCell 19 = .ok (.iconst 0, 1) := by decide +kernel
theorem dX5_loadedCell_2 : decode cX5_loadedCell 2 = .ok (.invokevirtual 85, 3) := by decide +kernel
theorem dX5_loadedCell_20 : decode cX5_loadedCell 20 = .ok (.invokevirtual 91, 3) := by decide +kernel
theorem dX5_loadedCell_23 : decode cX5_loadedCell 23 = .ok (.ifCond .ne 7, 3) := by decide +kernel
theorem dX5_loadedCell_26 : decode cX5_loadedCell 26 = .ok (.iconst 1, 1) := by decide +kernel
theorem dX5_loadedCell_27 : decode cX5_loadedCell 27 = .ok (.goto 4, 3) := by decide +kernel
theorem dX5_loadedCell_30 : decode cX5_loadedCell 30 = .ok (.iconst 0, 1) := by decide +kernel
theorem dX5_loadedCell_31 : decode cX5_loadedCell 31 = .ok (.istore 4, 2) := by decide +kernel
theorem dX5_loadedCell_33 : decode cX5_loadedCell 33 = .ok (.iload 4, 2) := by decide +kernel
theorem dX5_loadedCell_35 : decode cX5_loadedCell 35 = .ok (.ifCond .eq 13, 3) := by decide +kernel
theorem dX5_loadedCell_38 : decode cX5_loadedCell 38 = .ok (.aload_n 0, 1) := by decide +kernel
theorem dX5_loadedCell_39 : decode cX5_loadedCell 39 = .ok (.iload_n 2, 1) := by decide +kernel
theorem dX5_loadedCell_40 : decode cX5_loadedCell 40 = .ok (.iload_n 3, 1) := by decide +kernel
theorem dX5_loadedCell_41 : decode cX5_loadedCell 41 = .ok (.iconst 1, 1) := by decide +kernel
theorem dX5_loadedCell_42 : decode cX5_loadedCell 42 = .ok (.invokevirtual 91, 3) := by decide +kernel
theorem dX5_loadedCell_45 : decode cX5_loadedCell 45 = .ok (.goto 4, 3) := by decide +kernel
theorem dX5_loadedCell_48 : decode cX5_loadedCell 48 = .ok (.iconst (-1), 1) := by decide +kernel
theorem dX5_loadedCell_49 : decode cX5_loadedCell 49 = .ok (.ireturn, 1) := by decide +kernel
theorem dX5_loadedCell_5 : decode cX5_loadedCell 5 = .ok (.istore_n 3, 1) := by decide +kernel
theorem dX5_loadedCell_6 : decode cX5_loadedCell 6 = .ok (.iload_n 3, 1) := by decide +kernel
theorem dX5_loadedCell_7 : decode cX5_loadedCell 7 = .ok (.aload_n 0, 1) := by decide +kernel
theorem dX5_loadedCell_8 : decode cX5_loadedCell 8 = .ok (.getfield 88, 3) := by decide +kernel
theorem dX5_tell_0 : decode cX5_tell 0 = .ok (.aload_n 0, 1) := by decide +kernel
theorem dX5_tell_1 : decode cX5_tell 1 = .ok (.getfield 19, 3) := by decide +kernel
theorem dX5_tell_12 : decode cX5_tell 12 = .ok (.iconst (-1), 1) := by decide +kernel
theorem dX5_tell_13 : decode cX5_tell 13 = .ok (.ireturn, 1) := by decide +kernel
theorem dX5_tell_14 : decode cX5_tell 14 = .ok (.iload_n 1, 1) := by decide +kernel
theorem dX5_tell_15 : decode cX5_tell 15 = .ok (.tableswitch 40 0 2 #[25, 30, 35], 25) := by decide +kernel
theorem dX5_tell_4 : decode cX5_tell 4 = .ok (.iconst 1, 1) := by decide +kernel
theorem dX5_tell_40 : decode cX5_tell 40 = .ok (.aload_n 0, 1) := by decide +kernel
theorem dX5_tell_41 : decode cX5_tell 41 = .ok (.getfield 76, 3) := by decide +kernel
theorem dX5_tell_44 : decode cX5_tell 44 = .ok (.ireturn, 1) := by decide +kernel
theorem dX5_tell_45 : decode cX5_tell 45 = .ok (.aload_n 0, 1) := by decide +kernel
theorem dX5_tell_46 : decode cX5_tell 46 = .ok (.getfield 79, 3) := by decide +kernel
theorem dX5_tell_49 : decode cX5_tell 49 = .ok (.ireturn, 1) := by decide +kernel
theorem dX5_tell_5 : decode cX5_tell 5 = .ok (.if_icmp .ne 7, 3) := by decide +kernel
theorem dX5_tell_50 : decode cX5_tell 50 = .ok (.aload_n 0, 1) := by decide +kernel
theorem dX5_tell_51 : decode cX5_tell 51 = .ok (.getfield 82, 3) := by decide +kernel
theorem dX5_tell_54 : decode cX5_tell 54 = .ok (.ireturn, 1) := by decide +kernel
theorem dX5_tell_55 : decode cX5_tell 55 = .ok (.iload_n 1, 1) := by decide +kernel
theorem dX5_tell_56 : decode cX5_tell 56 = .ok (.iconst 3, 1) := by decide +kernel
theorem dX5_tell_57 : decode cX5_tell 57 = .ok (.isub, 1) := by decide +kernel
theorem dX5_tell_58 : decode cX5_tell 58 = .ok (.istore_n 2, 1) := by decide +kernel
theorem dX5_tell_59 : decode cX5_tell 59 = .ok (.iload_n 2, 1) := by decide +kernel
theorem dX5_tell_60 : decode cX5_tell 60 = .ok (.aload_n 0, 1) := by decide +kernel
theorem dX5_tell_61 : decode cX5_tell 61 = .ok (.getfield 48, 3) := by decide +kernel
theorem dX5_tell_64 : decode cX5_tell 64 = .ok (.if_icmp .ge 12, 3) := by decide +kernel
theorem dX5_tell_67 : decode cX5_tell 67 = .ok (.aload_n 0, 1) := by decide +kernel
theorem dX5_tell_68 : decode cX5_tell 68 = .ok (.getfield 9, 3) := by decide +kernel
theorem dX5_tell_71 : decode cX5_tell 71 = .ok (.iload_n 2, 1) := by decide +kernel
theorem dX5_tell_72 : decode cX5_tell 72 = .ok (.iaload, 1) := by decide +kernel
theorem dX5_tell_73 : decode cX5_tell 73 = .ok (.goto 4, 3) := by decide +kernel
theorem dX5_tell_76 : decode cX5_tell 76 = .ok (.iconst (-1), 1) := by decide +kernel
theorem dX5_tell_77 : decode cX5_tell 77 = .ok (.ireturn, 1) := by decide +kernel
theorem dX5_tell_8 : decode cX5_tell 8 = .ok (.iload_n 1, 1) := by decide +kernel
theorem dX5_tell_9 : decode cX5_tell 9 = .ok (.ifCond .ge 5, 3) := by decide +kernel
theorem dX5_writes_0 : decode cX5_writes 0 = .ok (.aload_n 1, 1) := by decide +kernel
theorem dX5_writes_1 : decode cX5_writes 1 = .ok (.iload_n 2, 1) := by decide +kernel
theorem dX5_writes_10 : decode cX5_writes 10 = .ok (.getfield 88, 3) := by decide +kernel
theorem dX5_writes_13 : decode cX5_writes 13 = .ok (.iload_n 2, 1) := by decide +kernel
theorem dX5_writes_14 : decode cX5_writes 14 = .ok (.iaload, 1) := by decide +kernel
theorem dX5_writes_15 : decode cX5_writes 15 = .ok (.if_icmp .ge 15, 3) := by decide +kernel
theorem dX5_writes_18 : decode cX5_writes 18 = .ok (.aload_n 0, 1) := by decide +kernel
theorem dX5_writes_19 : decode cX5_writes 19 = .ok (.iload_n 2, 1) := by decide +kernel
theorem dX5_writes_2 : decode cX5_writes 2 = .ok (.invokevirtual 85, 3) := by decide +kernel
theorem dX5_writes_20 : decode cX5_writes 20 = .ok (.iload 4, 2) := by decide +kernel
theorem dX5_writes_22 : decode cX5_writes 22 = .ok (.iconst 1, 1) := by decide +kernel
theorem dX5_writes_23 : decode cX5_writes 23 = .ok (.invokevirtual 91, 3) := by decide +kernel
theorem dX5_writes_26 : decode cX5_writes 26 = .ok (.iload_n 3, 1) := by decide +kernel
theorem dX5_writes_27 : decode cX5_writes 27 = .ok (.if_icmp .eq 5, 3) := by decide +kernel
theorem dX5_writes_30 : decode cX5_writes 30 = .ok (.iconst 0, 1) := by decide +kernel
theorem dX5_writes_31 : decode cX5_writes 31 = .ok (.ireturn, 1) := by decide +kernel
theorem dX5_writes_32 : decode cX5_writes 32 = .ok (.aload_n 0, 1) := by decide +kernel
theorem dX5_writes_33 : decode cX5_writes 33 = .ok (.iload_n 2, 1) := by decide +kernel
theorem dX5_writes_34 : decode cX5_writes 34 = .ok (.iload 4, 2) := by decide +kernel
theorem dX5_writes_36 : decode cX5_writes 36 = .ok (.iconst 0, 1) := by decide +kernel
theorem dX5_writes_37 : decode cX5_writes 37 = .ok (.invokevirtual 91, 3) := by decide +kernel
theorem dX5_writes_40 : decode cX5_writes 40 = .ok (.istore 5, 2) := by decide +kernel
theorem dX5_writes_42 : decode cX5_writes 42 = .ok (.iload 5, 2) := by decide +kernel
theorem dX5_writes_44 : decode cX5_writes 44 = .ok (.iconst 1, 1) := by decide +kernel
theorem dX5_writes_45 : decode cX5_writes 45 = .ok (.if_icmp .eq 11, 3) := by decide +kernel
theorem dX5_writes_48 : decode cX5_writes 48 = .ok (.iload 5, 2) := by decide +kernel
theorem dX5_writes_5 : decode cX5_writes 5 = .ok (.istore 4, 2) := by decide +kernel
theorem dX5_writes_50 : decode cX5_writes 50 = .ok (.invokestatic 95, 3) := by decide +kernel
theorem dX5_writes_53 : decode cX5_writes 53 = .ok (.ifCond .eq 7, 3) := by decide +kernel
theorem dX5_writes_56 : decode cX5_writes 56 = .ok (.iconst 1, 1) := by decide +kernel
theorem dX5_writes_57 : decode cX5_writes 57 = .ok (.goto 4, 3) := by decide +kernel
theorem dX5_writes_60 : decode cX5_writes 60 = .ok (.iconst 0, 1) := by decide +kernel
theorem dX5_writes_61 : decode cX5_writes 61 = .ok (.ireturn, 1) := by decide +kernel
theorem dX5_writes_7 : decode cX5_writes 7 = .ok (.iload 4, 2) := by decide +kernel
theorem dX5_writes_9 : decode cX5_writes 9 = .ok (.aload_n 0, 1) := by decide +kernel
theorem gW_c_nextOf : wsP_c_nextOf.all goodWord = true := by decide +kernel
def wsP_c_loadedCell : List Cond := .code yX5_loadedCell cX5_loadedCell 5 (some .int) :: (([.methodLink RX5 85 yX7_nextOf, .instanceMethod yX7_nextOf, .selects RX7 yX7_nextOf yX7_nextOf, .initialized RX7, .fieldLink RX5 88 "LitmusHall$Program" "lengths" "[I", .methodLink RX5 91 yX4_part, .instanceMethod yX4_part, .selects RX4 yX4_part yX4_part, .initialized RX4] ++ wsX40) ++ (wsP_c_nextOf ++ (wsP_c_part ++ [])))
theorem gW_c_loadedCell : wsP_c_loadedCell.all goodWord = true := by unfold wsP_c_loadedCell; exact gw_mk (by decide +kernel) (gw_app gW_c_nextOf (gw_app gW_c_part rfl))
set_option maxRecDepth 20000 in
theorem gP_c_loadedCell__c_nextOf : GoodIn wsP_c_loadedCell (wsV RX5 85 RX7 yX7_nextOf wsP_c_nextOf) := gw_in (pre := [.methodLink RX5 85 yX7_nextOf, .instanceMethod yX7_nextOf, .selects RX7 yX7_nextOf yX7_nextOf, .initialized RX7]) (by decide +kernel) (fun _ h => List.mem_cons_of_mem _ (List.mem_append_right _ (List.mem_append_left _ h))) gW_c_nextOf
set_option maxRecDepth 20000 in
theorem gP_c_loadedCell__c_part : GoodIn wsP_c_loadedCell (wsV RX5 91 RX4 yX4_part wsP_c_part) := gw_in (pre := [.methodLink RX5 91 yX4_part, .instanceMethod yX4_part, .selects RX4 yX4_part yX4_part, .initialized RX4]) (by decide +kernel) (fun _ h => List.mem_cons_of_mem _ (List.mem_append_right _ (List.mem_append_right _ (List.mem_append_left _ h)))) gW_c_part
set_option maxHeartbeats 4000000 in
set_option maxRecDepth 100000 in
theorem c_loadedCell (l : Launch) (D : va_G) (cI cB cZ : ClassId) (p0 : Nat) (b1 : Nat) (b3 : Nat) (v2 : Value) (nc : Nat) (L : Nat → Nat) (pf : Nat → Int32) (s0 : Nat) (s1 : Nat) (f : Nat → Int32) (k : Nat) (hk : k < 3) (hL : ∀ k, k < 3 → L k ≤ 8) : gMi l yX5_loadedCell wsP_c_loadedCell ({ frames := 2, cells := 0, slots := 0, locals := 44 }) D cI cB cZ [] [.ref p0, .ref s0, .int (nI k)] [(p0, .inr (4, [.int (nI nc), .ref b1, v2, .ref b3])), (b1, .inl (cI, 3, .inl (fun j => nI (L j)))), (b3, .inl (cI, 192, .inl pf)), (s0, .inr (7, [.ref s1])), (s1, .inl (cI, 34, .inl f))] (fun r9 w9 => ∃ z : Int32, r9 = z ∧ w9 = [(p0, .inr (4, [.int (nI nc), .ref b1, v2, .ref b3])), (b1, .inl (cI, 3, .inl (fun j => nI (L j)))), (b3, .inl (cI, 192, .inl pf)), (s0, .inr (7, [.ref s1])), (s1, .inl (cI, 34, .inl f))]) := by
  refine gMi.of (cc := cX5_loadedCell) (maxL := 5) (ret := (some .int)) (by decide) rfl (Nat.le_of_ble_eq_true rfl) (fun p e s m below meth c A ls hx hb hr hlk hml hts hown hin hA hP hK hD hS hN hl => ?_)
  have hown : s.vm.findClass RX5 = some m.cls := hown
  have hl : lv_has ls 5 [(0, .ref p0), (1, .ref s0), (2, .int (nI k))] := hl
  refine lv_aload_n hx hb dX5_loadedCell_0 rfl (lv_at hl 1 rfl) ?_
  refine lv_iload_n hx hb dX5_loadedCell_1 rfl (lv_at hl 2 rfl) ?_
  refine gx_goi (wc := [(s0, .inr (7, [.ref s1])), (s1, .inl (cI, 34, .inl f))]) (wr := [(p0, .inr (4, [.int (nI nc), .ref b1, v2, .ref b3])), (b1, .inl (cI, 3, .inl (fun j => nI (L j)))), (b3, .inl (cI, 192, .inl pf))]) (va_runV (As := [.int (nI k)]) (rest := []) ⟨hx, hb, hml, hown, hts⟩ (c_nextOf l D cI cB cZ s0 s1 f k (by omega) _) (cwV 1 hts gP_c_loadedCell__c_nextOf rfl rfl rfl (by decide +kernel) ⟨Nat.le_of_ble_eq_true rfl, Nat.le_of_ble_eq_true rfl⟩) (gx_preV (ci := 7) (q0 := 0) hK gN.nil hP hD [3, 4] rfl rfl rfl rfl) rfl rfl hl.1 rfl (lv_room (Nat.le_of_ble_eq_true rfl)) dX5_loadedCell_2 ⟨Nat.le_of_ble_eq_true rfl, Nat.le_of_ble_eq_true rfl⟩) hP hD hS hA [3, 4] [0, 1, 2] rfl rfl rfl (by decide) (fun r1 w1 H locs hp hP hD hS => ?_)
  obtain ⟨h9, rfl⟩ := hp
  have h9 := h9.symm
  subst h9
  have hnx := gNx_lt (f (13 + k))
  refine lv_istore_n (lv' := [(3, .int (nI (gNx (f (13 + k))))), (0, .ref p0), (1, .ref s0), (2, .int (nI k))]) hx hb dX5_loadedCell_5 rfl hl (by decide) rfl (fun ls hl => ?_)
  refine lv_iload_n hx hb dX5_loadedCell_6 rfl (lv_at hl 0 rfl) ?_
  refine lv_aload_n hx hb dX5_loadedCell_7 rfl (lv_at hl 1 rfl) ?_
  refine va_get (D := D) (ci := 4) (v := .ref b1) (C := RX4) (T := TX4) (N := 4) hx hb hts (fun _ h => List.mem_cons_of_mem _ (List.mem_append_left _ (List.mem_append_right _ h))) hown hK hP 0 rfl rfl 1 (by decide) (hts (.fieldLink RX5 88 "LitmusHall$Program" "lengths" "[I") (by decide +kernel)) (fun _ h9 => h9) rfl dX5_loadedCell_8 ?_
  refine lv_iload_n hx hb dX5_loadedCell_11 rfl (lv_at hl 3 rfl) ?_
  refine gy_ild (i := k) hx hb hK hP 1 rfl (by omega) (by omega) dX5_loadedCell_12 ?_
  refine gx_top (y := nI (L k)) rfl ?_
  have hL0 := hL k (by omega)
  refine gy_ge (a := (gNx (f (13 + k)))) (b := (L k)) (tgt := 30) hx hb (by omega) (by omega) dX5_loadedCell_13 (by decide) (fun c_1 => ?_) (fun c_1 => ?_)
  · refine lv_iconst (v := 0) hx hb dX5_loadedCell_30 (by decide) ?_
    refine lv_istore (lv' := [(4, .int 0), (3, .int (nI (gNx (f (13 + k))))), (0, .ref p0), (1, .ref s0), (2, .int (nI k))]) hx hb dX5_loadedCell_31 hl (by decide) rfl (fun ls hl => ?_)
    refine lv_iload hx hb dX5_loadedCell_33 (lv_at hl 0 rfl) ?_
    refine lv_if_eq (tgt := 48) hx hb dX5_loadedCell_35 (by decide) (fun _ => ?_) (fun c9 => absurd (by decide) c9)
    refine lv_iconst (v := (-1)) hx hb dX5_loadedCell_48 (by decide) ?_
    exact gx_iret (w' := [(p0, .inr (4, [.int (nI nc), .ref b1, v2, .ref b3])), (b1, .inl (cI, 3, .inl (fun j => nI (L j)))), (b3, .inl (cI, 192, .inl pf)), (s0, .inr (7, [.ref s1])), (s1, .inl (cI, 34, .inl f))]) hx hb hr hlk hK hP hD hS (Nat.le_of_ble_eq_true rfl) (Nat.le_of_ble_eq_true rfl) dX5_loadedCell_49 ⟨(-1), rfl, rfl⟩
  · refine lv_aload_n hx hb dX5_loadedCell_16 rfl (lv_at hl 1 rfl) ?_
    refine lv_iload_n hx hb dX5_loadedCell_17 rfl (lv_at hl 3 rfl) ?_
    refine lv_iload_n hx hb dX5_loadedCell_18 rfl (lv_at hl 0 rfl) ?_
    refine lv_iconst (v := 0) hx hb dX5_loadedCell_19 (by decide) ?_
    refine gx_goi (wc := [(p0, .inr (4, [.int (nI nc), .ref b1, v2, .ref b3])), (b3, .inl (cI, 192, .inl pf))]) (wr := [(b1, .inl (cI, 3, .inl (fun j => nI (L j)))), (s0, .inr (7, [.ref s1])), (s1, .inl (cI, 34, .inl f))]) (va_runV (As := [.int (nI k), .int (nI (gNx (f (13 + k)))), .int 0]) (rest := []) ⟨hx, hb, hml, hown, hts⟩ (c_part l D cI cB cZ p0 b3 (.int (nI nc)) (.ref b1) (v2) pf k (gNx (f (13 + k))) 0 (by omega) (by omega) (by omega) _) (cwV 3 hts gP_c_loadedCell__c_part rfl rfl rfl (by decide +kernel) ⟨Nat.le_of_ble_eq_true rfl, Nat.le_of_ble_eq_true rfl⟩) (gx_preV (ci := 4) (q0 := 0) hK gN.nil hP hD [0, 2] rfl rfl rfl rfl) rfl rfl hl.1 rfl (lv_room (Nat.le_of_ble_eq_true rfl)) dX5_loadedCell_20 ⟨Nat.le_of_ble_eq_true rfl, Nat.le_of_ble_eq_true rfl⟩) hP hD hS hA [0, 2] [1, 3, 4] rfl rfl rfl (by decide) (fun r1 w1 H locs hp hP hD hS => ?_)
    obtain ⟨h9, rfl⟩ := hp
    have h9 := h9.symm
    subst h9
    refine lv_if_ne (tgt := 30) hx hb dX5_loadedCell_23 (by decide) (fun c_2 => ?_) (fun c_2 => ?_)
    · refine lv_iconst (v := 0) hx hb dX5_loadedCell_30 (by decide) ?_
      refine lv_istore (lv' := [(4, .int 0), (3, .int (nI (gNx (f (13 + k))))), (0, .ref p0), (1, .ref s0), (2, .int (nI k))]) hx hb dX5_loadedCell_31 hl (by decide) rfl (fun ls hl => ?_)
      refine lv_iload hx hb dX5_loadedCell_33 (lv_at hl 0 rfl) ?_
      refine lv_if_eq (tgt := 48) hx hb dX5_loadedCell_35 (by decide) (fun _ => ?_) (fun c9 => absurd (by decide) c9)
      refine lv_iconst (v := (-1)) hx hb dX5_loadedCell_48 (by decide) ?_
      have hP := hP.sub (ws' := [(p0, .inr (4, [.int (nI nc), .ref b1, v2, .ref b3])), (b1, .inl (cI, 3, .inl (fun j => nI (L j)))), (b3, .inl (cI, 192, .inl pf)), (s0, .inr (7, [.ref s1])), (s1, .inl (cI, 34, .inl f))]) [3, 0, 4, 1, 2] rfl
      have hD := hD.sub (ws' := [(p0, .inr (4, [.int (nI nc), .ref b1, v2, .ref b3])), (b1, .inl (cI, 3, .inl (fun j => nI (L j)))), (b3, .inl (cI, 192, .inl pf)), (s0, .inr (7, [.ref s1])), (s1, .inl (cI, 34, .inl f))]) [3, 0, 4, 1, 2] (by decide) rfl
      exact gx_iret (w' := [(p0, .inr (4, [.int (nI nc), .ref b1, v2, .ref b3])), (b1, .inl (cI, 3, .inl (fun j => nI (L j)))), (b3, .inl (cI, 192, .inl pf)), (s0, .inr (7, [.ref s1])), (s1, .inl (cI, 34, .inl f))]) hx hb hr hlk hK hP hD hS (Nat.le_of_ble_eq_true rfl) (Nat.le_of_ble_eq_true rfl) dX5_loadedCell_49 ⟨(-1), rfl, rfl⟩
    · refine lv_iconst (v := 1) hx hb dX5_loadedCell_26 (by decide) ?_
      refine lv_goto (tgt := 31) hx hb dX5_loadedCell_27 (by decide) ?_
      refine lv_istore (lv' := [(4, .int 1), (3, .int (nI (gNx (f (13 + k))))), (0, .ref p0), (1, .ref s0), (2, .int (nI k))]) hx hb dX5_loadedCell_31 hl (by decide) rfl (fun ls hl => ?_)
      refine lv_iload hx hb dX5_loadedCell_33 (lv_at hl 0 rfl) ?_
      refine lv_if_eq (tgt := 48) hx hb dX5_loadedCell_35 (by decide) (fun c9 => absurd c9 (by decide)) (fun _ => ?_)
      refine lv_aload_n hx hb dX5_loadedCell_38 rfl (lv_at hl 2 rfl) ?_
      refine lv_iload_n hx hb dX5_loadedCell_39 rfl (lv_at hl 4 rfl) ?_
      refine lv_iload_n hx hb dX5_loadedCell_40 rfl (lv_at hl 1 rfl) ?_
      refine lv_iconst (v := 1) hx hb dX5_loadedCell_41 (by decide) ?_
      refine gx_goi (wc := [(p0, .inr (4, [.int (nI nc), .ref b1, v2, .ref b3])), (b3, .inl (cI, 192, .inl pf))]) (wr := [(b1, .inl (cI, 3, .inl (fun j => nI (L j)))), (s0, .inr (7, [.ref s1])), (s1, .inl (cI, 34, .inl f))]) (va_runV (As := [.int (nI k), .int (nI (gNx (f (13 + k)))), .int 1]) (rest := []) ⟨hx, hb, hml, hown, hts⟩ (c_part l D cI cB cZ p0 b3 (.int (nI nc)) (.ref b1) (v2) pf k (gNx (f (13 + k))) 1 (by omega) (by omega) (by omega) _) (cwV 3 hts gP_c_loadedCell__c_part rfl rfl rfl (by decide +kernel) ⟨Nat.le_of_ble_eq_true rfl, Nat.le_of_ble_eq_true rfl⟩) (gx_preV (ci := 4) (q0 := 0) hK gN.nil hP hD [3, 4] rfl rfl rfl rfl) rfl rfl hl.1 rfl (lv_room (Nat.le_of_ble_eq_true rfl)) dX5_loadedCell_42 ⟨Nat.le_of_ble_eq_true rfl, Nat.le_of_ble_eq_true rfl⟩) hP hD hS hA [3, 4] [0, 1, 2] rfl rfl rfl (by decide) (fun r1 w1 H locs hp hP hD hS => ?_)
      obtain ⟨h9, rfl⟩ := hp
      have h9 := h9.symm
      subst h9
      refine lv_goto (tgt := 49) hx hb dX5_loadedCell_45 (by decide) ?_
      have hP := hP.sub (ws' := [(p0, .inr (4, [.int (nI nc), .ref b1, v2, .ref b3])), (b1, .inl (cI, 3, .inl (fun j => nI (L j)))), (b3, .inl (cI, 192, .inl pf)), (s0, .inr (7, [.ref s1])), (s1, .inl (cI, 34, .inl f))]) [3, 0, 4, 1, 2] rfl
      have hD := hD.sub (ws' := [(p0, .inr (4, [.int (nI nc), .ref b1, v2, .ref b3])), (b1, .inl (cI, 3, .inl (fun j => nI (L j)))), (b3, .inl (cI, 192, .inl pf)), (s0, .inr (7, [.ref s1])), (s1, .inl (cI, 34, .inl f))]) [3, 0, 4, 1, 2] (by decide) rfl
      exact gx_iret (w' := [(p0, .inr (4, [.int (nI nc), .ref b1, v2, .ref b3])), (b1, .inl (cI, 3, .inl (fun j => nI (L j)))), (b3, .inl (cI, 192, .inl pf)), (s0, .inr (7, [.ref s1])), (s1, .inl (cI, 34, .inl f))]) hx hb hr hlk hK hP hD hS (Nat.le_of_ble_eq_true rfl) (Nat.le_of_ble_eq_true rfl) dX5_loadedCell_49 ⟨(pf ((((k * 8) + (gNx (f (13 + k)))) * 8) + 1)), rfl, rfl⟩
theorem gW_c_isLocked : wsP_c_isLocked.all goodWord = true := by decide +kernel
def wsP_c_writes : List Cond := .code yX5_writes cX5_writes 6 (some .boolean) :: (([.methodLink RX5 85 yX7_nextOf, .instanceMethod yX7_nextOf, .selects RX7 yX7_nextOf yX7_nextOf, .initialized RX7, .fieldLink RX5 88 "LitmusHall$Program" "lengths" "[I", .methodLink RX5 91 yX4_part, .instanceMethod yX4_part, .selects RX4 yX4_part yX4_part, .initialized RX4, .methodLink RX5 95 yX7_isLocked, .static yX7_isLocked, .initialized yX7_isLocked.cls] ++ wsX40) ++ (wsP_c_nextOf ++ (wsP_c_part ++ (wsP_c_isLocked ++ []))))
theorem gW_c_writes : wsP_c_writes.all goodWord = true := by unfold wsP_c_writes; exact gw_mk (by decide +kernel) (gw_app gW_c_nextOf (gw_app gW_c_part (gw_app gW_c_isLocked rfl)))
set_option maxRecDepth 20000 in
theorem gP_c_writes__c_nextOf : GoodIn wsP_c_writes (wsV RX5 85 RX7 yX7_nextOf wsP_c_nextOf) := gw_in (pre := [.methodLink RX5 85 yX7_nextOf, .instanceMethod yX7_nextOf, .selects RX7 yX7_nextOf yX7_nextOf, .initialized RX7]) (by decide +kernel) (fun _ h => List.mem_cons_of_mem _ (List.mem_append_right _ (List.mem_append_left _ h))) gW_c_nextOf
set_option maxRecDepth 20000 in
theorem gP_c_writes__c_part : GoodIn wsP_c_writes (wsV RX5 91 RX4 yX4_part wsP_c_part) := gw_in (pre := [.methodLink RX5 91 yX4_part, .instanceMethod yX4_part, .selects RX4 yX4_part yX4_part, .initialized RX4]) (by decide +kernel) (fun _ h => List.mem_cons_of_mem _ (List.mem_append_right _ (List.mem_append_right _ (List.mem_append_left _ h)))) gW_c_part
set_option maxRecDepth 20000 in
theorem gP_c_writes__c_isLocked : GoodIn wsP_c_writes (va_wsS RX5 95 yX7_isLocked wsP_c_isLocked) := gw_in (pre := [.methodLink RX5 95 yX7_isLocked, .static yX7_isLocked, .initialized yX7_isLocked.cls]) (by decide +kernel) (fun _ h => List.mem_cons_of_mem _ (List.mem_append_right _ (List.mem_append_right _ (List.mem_append_right _ (List.mem_append_left _ h))))) gW_c_isLocked
set_option maxHeartbeats 4000000 in
set_option maxRecDepth 100000 in
theorem c_writes (l : Launch) (D : va_G) (cI cB cZ : ClassId) (p0 : Nat) (b1 : Nat) (b3 : Nat) (v2 : Value) (nc : Nat) (L : Nat → Nat) (pf : Nat → Int32) (s0 : Nat) (s1 : Nat) (f : Nat → Int32) (k : Nat) (x : Int32) (hk : k < 3) (hL : ∀ k, k < 3 → L k ≤ 8) : gMi l yX5_writes wsP_c_writes ({ frames := 2, cells := 0, slots := 0, locals := 44 }) D cI cB cZ [] [.ref p0, .ref s0, .int (nI k), .int x] [(p0, .inr (4, [.int (nI nc), .ref b1, v2, .ref b3])), (b1, .inl (cI, 3, .inl (fun j => nI (L j)))), (b3, .inl (cI, 192, .inl pf)), (s0, .inr (7, [.ref s1])), (s1, .inl (cI, 34, .inl f))] (fun r9 w9 => ∃ z : Int32, (z = 0 ∨ z = 1) ∧ r9 = z ∧ w9 = [(p0, .inr (4, [.int (nI nc), .ref b1, v2, .ref b3])), (b1, .inl (cI, 3, .inl (fun j => nI (L j)))), (b3, .inl (cI, 192, .inl pf)), (s0, .inr (7, [.ref s1])), (s1, .inl (cI, 34, .inl f))]) := by
  refine gMi.of (cc := cX5_writes) (maxL := 6) (ret := (some .boolean)) (by decide) rfl (Nat.le_of_ble_eq_true rfl) (fun p e s m below meth c A ls hx hb hr hlk hml hts hown hin hA hP hK hD hS hN hl => ?_)
  have hown : s.vm.findClass RX5 = some m.cls := hown
  have hl : lv_has ls 6 [(0, .ref p0), (1, .ref s0), (2, .int (nI k)), (3, .int x)] := hl
  refine lv_aload_n hx hb dX5_writes_0 rfl (lv_at hl 1 rfl) ?_
  refine lv_iload_n hx hb dX5_writes_1 rfl (lv_at hl 2 rfl) ?_
  refine gx_goi (wc := [(s0, .inr (7, [.ref s1])), (s1, .inl (cI, 34, .inl f))]) (wr := [(p0, .inr (4, [.int (nI nc), .ref b1, v2, .ref b3])), (b1, .inl (cI, 3, .inl (fun j => nI (L j)))), (b3, .inl (cI, 192, .inl pf))]) (va_runV (As := [.int (nI k)]) (rest := []) ⟨hx, hb, hml, hown, hts⟩ (c_nextOf l D cI cB cZ s0 s1 f k (by omega) _) (cwV 1 hts gP_c_writes__c_nextOf rfl rfl rfl (by decide +kernel) ⟨Nat.le_of_ble_eq_true rfl, Nat.le_of_ble_eq_true rfl⟩) (gx_preV (ci := 7) (q0 := 0) hK gN.nil hP hD [3, 4] rfl rfl rfl rfl) rfl rfl hl.1 rfl (lv_room (Nat.le_of_ble_eq_true rfl)) dX5_writes_2 ⟨Nat.le_of_ble_eq_true rfl, Nat.le_of_ble_eq_true rfl⟩) hP hD hS hA [3, 4] [0, 1, 2] rfl rfl rfl (by decide) (fun r1 w1 H locs hp hP hD hS => ?_)
  obtain ⟨h9, rfl⟩ := hp
  have h9 := h9.symm
  subst h9
  have hnx := gNx_lt (f (13 + k))
  refine lv_istore (lv' := [(4, .int (nI (gNx (f (13 + k))))), (0, .ref p0), (1, .ref s0), (2, .int (nI k)), (3, .int x)]) hx hb dX5_writes_5 hl (by decide) rfl (fun ls hl => ?_)
  refine lv_iload hx hb dX5_writes_7 (lv_at hl 0 rfl) ?_
  refine lv_aload_n hx hb dX5_writes_9 rfl (lv_at hl 1 rfl) ?_
  refine va_get (D := D) (ci := 4) (v := .ref b1) (C := RX4) (T := TX4) (N := 4) hx hb hts (fun _ h => List.mem_cons_of_mem _ (List.mem_append_left _ (List.mem_append_right _ h))) hown hK hP 0 rfl rfl 1 (by decide) (hts (.fieldLink RX5 88 "LitmusHall$Program" "lengths" "[I") (by decide +kernel)) (fun _ h9 => h9) rfl dX5_writes_10 ?_
  refine lv_iload_n hx hb dX5_writes_13 rfl (lv_at hl 3 rfl) ?_
  refine gy_ild (i := k) hx hb hK hP 1 rfl (by omega) (by omega) dX5_writes_14 ?_
  refine gx_top (y := nI (L k)) rfl ?_
  have hL0 := hL k (by omega)
  refine gy_ge (a := (gNx (f (13 + k)))) (b := (L k)) (tgt := 30) hx hb (by omega) (by omega) dX5_writes_15 (by decide) (fun c_1 => ?_) (fun c_1 => ?_)
  · refine lv_iconst (v := 0) hx hb dX5_writes_30 (by decide) ?_
    exact gx_zret (w' := [(p0, .inr (4, [.int (nI nc), .ref b1, v2, .ref b3])), (b1, .inl (cI, 3, .inl (fun j => nI (L j)))), (b3, .inl (cI, 192, .inl pf)), (s0, .inr (7, [.ref s1])), (s1, .inl (cI, 34, .inl f))]) hx hb hr hlk hK hP hD hS (Nat.le_of_ble_eq_true rfl) (Nat.le_of_ble_eq_true rfl) dX5_writes_31 rfl ⟨0, (by decide), rfl, rfl⟩
  · refine lv_aload_n hx hb dX5_writes_18 rfl (lv_at hl 1 rfl) ?_
    refine lv_iload_n hx hb dX5_writes_19 rfl (lv_at hl 3 rfl) ?_
    refine lv_iload hx hb dX5_writes_20 (lv_at hl 0 rfl) ?_
    refine lv_iconst (v := 1) hx hb dX5_writes_22 (by decide) ?_
    refine gx_goi (wc := [(p0, .inr (4, [.int (nI nc), .ref b1, v2, .ref b3])), (b3, .inl (cI, 192, .inl pf))]) (wr := [(b1, .inl (cI, 3, .inl (fun j => nI (L j)))), (s0, .inr (7, [.ref s1])), (s1, .inl (cI, 34, .inl f))]) (va_runV (As := [.int (nI k), .int (nI (gNx (f (13 + k)))), .int 1]) (rest := []) ⟨hx, hb, hml, hown, hts⟩ (c_part l D cI cB cZ p0 b3 (.int (nI nc)) (.ref b1) (v2) pf k (gNx (f (13 + k))) 1 (by omega) (by omega) (by omega) _) (cwV 3 hts gP_c_writes__c_part rfl rfl rfl (by decide +kernel) ⟨Nat.le_of_ble_eq_true rfl, Nat.le_of_ble_eq_true rfl⟩) (gx_preV (ci := 4) (q0 := 0) hK gN.nil hP hD [0, 2] rfl rfl rfl rfl) rfl rfl hl.1 rfl (lv_room (Nat.le_of_ble_eq_true rfl)) dX5_writes_23 ⟨Nat.le_of_ble_eq_true rfl, Nat.le_of_ble_eq_true rfl⟩) hP hD hS hA [0, 2] [1, 3, 4] rfl rfl rfl (by decide) (fun r1 w1 H locs hp hP hD hS => ?_)
    obtain ⟨h9, rfl⟩ := hp
    have h9 := h9.symm
    subst h9
    refine lv_iload_n hx hb dX5_writes_26 rfl (lv_at hl 4 rfl) ?_
    refine lv_icmp_eq (tgt := 32) hx hb dX5_writes_27 (by decide) (fun c_2 => ?_) (fun c_2 => ?_)
    · refine lv_aload_n hx hb dX5_writes_32 rfl (lv_at hl 1 rfl) ?_
      refine lv_iload_n hx hb dX5_writes_33 rfl (lv_at hl 3 rfl) ?_
      refine lv_iload hx hb dX5_writes_34 (lv_at hl 0 rfl) ?_
      refine lv_iconst (v := 0) hx hb dX5_writes_36 (by decide) ?_
      refine gx_goi (wc := [(p0, .inr (4, [.int (nI nc), .ref b1, v2, .ref b3])), (b3, .inl (cI, 192, .inl pf))]) (wr := [(b1, .inl (cI, 3, .inl (fun j => nI (L j)))), (s0, .inr (7, [.ref s1])), (s1, .inl (cI, 34, .inl f))]) (va_runV (As := [.int (nI k), .int (nI (gNx (f (13 + k)))), .int 0]) (rest := []) ⟨hx, hb, hml, hown, hts⟩ (c_part l D cI cB cZ p0 b3 (.int (nI nc)) (.ref b1) (v2) pf k (gNx (f (13 + k))) 0 (by omega) (by omega) (by omega) _) (cwV 3 hts gP_c_writes__c_part rfl rfl rfl (by decide +kernel) ⟨Nat.le_of_ble_eq_true rfl, Nat.le_of_ble_eq_true rfl⟩) (gx_preV (ci := 4) (q0 := 0) hK gN.nil hP hD [3, 4] rfl rfl rfl rfl) rfl rfl hl.1 rfl (lv_room (Nat.le_of_ble_eq_true rfl)) dX5_writes_37 ⟨Nat.le_of_ble_eq_true rfl, Nat.le_of_ble_eq_true rfl⟩) hP hD hS hA [3, 4] [0, 1, 2] rfl rfl rfl (by decide) (fun r1 w1 H locs hp hP hD hS => ?_)
      obtain ⟨h9, rfl⟩ := hp
      have h9 := h9.symm
      subst h9
      refine lv_istore (lv' := [(5, .int (pf ((((k * 8) + (gNx (f (13 + k)))) * 8) + 0))), (4, .int (nI (gNx (f (13 + k))))), (0, .ref p0), (1, .ref s0), (2, .int (nI k)), (3, .int x)]) hx hb dX5_writes_40 hl (by decide) rfl (fun ls hl => ?_)
      refine lv_iload hx hb dX5_writes_42 (lv_at hl 0 rfl) ?_
      refine lv_iconst (v := 1) hx hb dX5_writes_44 (by decide) ?_
      refine lv_icmp_eq (tgt := 56) hx hb dX5_writes_45 (by decide) (fun c_3 => ?_) (fun c_3 => ?_)
      · refine lv_iconst (v := 1) hx hb dX5_writes_56 (by decide) ?_
        refine lv_goto (tgt := 61) hx hb dX5_writes_57 (by decide) ?_
        have hP := hP.sub (ws' := [(p0, .inr (4, [.int (nI nc), .ref b1, v2, .ref b3])), (b1, .inl (cI, 3, .inl (fun j => nI (L j)))), (b3, .inl (cI, 192, .inl pf)), (s0, .inr (7, [.ref s1])), (s1, .inl (cI, 34, .inl f))]) [3, 0, 4, 1, 2] rfl
        have hD := hD.sub (ws' := [(p0, .inr (4, [.int (nI nc), .ref b1, v2, .ref b3])), (b1, .inl (cI, 3, .inl (fun j => nI (L j)))), (b3, .inl (cI, 192, .inl pf)), (s0, .inr (7, [.ref s1])), (s1, .inl (cI, 34, .inl f))]) [3, 0, 4, 1, 2] (by decide) rfl
        exact gx_zret (w' := [(p0, .inr (4, [.int (nI nc), .ref b1, v2, .ref b3])), (b1, .inl (cI, 3, .inl (fun j => nI (L j)))), (b3, .inl (cI, 192, .inl pf)), (s0, .inr (7, [.ref s1])), (s1, .inl (cI, 34, .inl f))]) hx hb hr hlk hK hP hD hS (Nat.le_of_ble_eq_true rfl) (Nat.le_of_ble_eq_true rfl) dX5_writes_61 rfl ⟨1, (by decide), rfl, rfl⟩
      · refine lv_iload hx hb dX5_writes_48 (lv_at hl 0 rfl) ?_
        refine gx_goi (wc := []) (wr := [(b1, .inl (cI, 3, .inl (fun j => nI (L j)))), (s0, .inr (7, [.ref s1])), (s1, .inl (cI, 34, .inl f)), (p0, .inr (4, [.int (nI nc), .ref b1, v2, .ref b3])), (b3, .inl (cI, 192, .inl pf))]) (va_runS (As := [.int (pf ((((k * 8) + (gNx (f (13 + k)))) * 8) + 0))]) (rest := []) ⟨hx, hb, hml, hown, hts⟩ (c_isLocked l D cI cB cZ (pf ((((k * 8) + (gNx (f (13 + k)))) * 8) + 0)) _) (va_cwS 1 hts gP_c_writes__c_isLocked rfl rfl rfl (by decide +kernel) ⟨Nat.le_of_ble_eq_true rfl, Nat.le_of_ble_eq_true rfl⟩) (gx_preS hK gN.nil hP hD [] rfl rfl) rfl rfl hl.1 rfl (lv_room (Nat.le_of_ble_eq_true rfl)) dX5_writes_50 ⟨Nat.le_of_ble_eq_true rfl, Nat.le_of_ble_eq_true rfl⟩) hP hD hS hA [] [0, 1, 2, 3, 4] rfl rfl rfl (by decide) (fun r1 w1 H locs hp hP hD hS => ?_)
        obtain ⟨e_4, hq_5, h9, rfl⟩ := hp
        have h9 := h9.symm
        subst h9
        have hq_5 : e_4 = 0 ∨ e_4 = 1 := hq_5
        refine lv_if_eq (tgt := 60) hx hb dX5_writes_53 (by decide) (fun c_6 => ?_) (fun c_6 => ?_)
        · refine lv_iconst (v := 0) hx hb dX5_writes_60 (by decide) ?_
          have hP := hP.sub (ws' := [(p0, .inr (4, [.int (nI nc), .ref b1, v2, .ref b3])), (b1, .inl (cI, 3, .inl (fun j => nI (L j)))), (b3, .inl (cI, 192, .inl pf)), (s0, .inr (7, [.ref s1])), (s1, .inl (cI, 34, .inl f))]) [3, 0, 4, 1, 2] rfl
          have hD := hD.sub (ws' := [(p0, .inr (4, [.int (nI nc), .ref b1, v2, .ref b3])), (b1, .inl (cI, 3, .inl (fun j => nI (L j)))), (b3, .inl (cI, 192, .inl pf)), (s0, .inr (7, [.ref s1])), (s1, .inl (cI, 34, .inl f))]) [3, 0, 4, 1, 2] (by decide) rfl
          exact gx_zret (w' := [(p0, .inr (4, [.int (nI nc), .ref b1, v2, .ref b3])), (b1, .inl (cI, 3, .inl (fun j => nI (L j)))), (b3, .inl (cI, 192, .inl pf)), (s0, .inr (7, [.ref s1])), (s1, .inl (cI, 34, .inl f))]) hx hb hr hlk hK hP hD hS (Nat.le_of_ble_eq_true rfl) (Nat.le_of_ble_eq_true rfl) dX5_writes_61 rfl ⟨0, (by decide), rfl, rfl⟩
        · refine lv_iconst (v := 1) hx hb dX5_writes_56 (by decide) ?_
          refine lv_goto (tgt := 61) hx hb dX5_writes_57 (by decide) ?_
          have hP := hP.sub (ws' := [(p0, .inr (4, [.int (nI nc), .ref b1, v2, .ref b3])), (b1, .inl (cI, 3, .inl (fun j => nI (L j)))), (b3, .inl (cI, 192, .inl pf)), (s0, .inr (7, [.ref s1])), (s1, .inl (cI, 34, .inl f))]) [3, 0, 4, 1, 2] rfl
          have hD := hD.sub (ws' := [(p0, .inr (4, [.int (nI nc), .ref b1, v2, .ref b3])), (b1, .inl (cI, 3, .inl (fun j => nI (L j)))), (b3, .inl (cI, 192, .inl pf)), (s0, .inr (7, [.ref s1])), (s1, .inl (cI, 34, .inl f))]) [3, 0, 4, 1, 2] (by decide) rfl
          exact gx_zret (w' := [(p0, .inr (4, [.int (nI nc), .ref b1, v2, .ref b3])), (b1, .inl (cI, 3, .inl (fun j => nI (L j)))), (b3, .inl (cI, 192, .inl pf)), (s0, .inr (7, [.ref s1])), (s1, .inl (cI, 34, .inl f))]) hx hb hr hlk hK hP hD hS (Nat.le_of_ble_eq_true rfl) (Nat.le_of_ble_eq_true rfl) dX5_writes_61 rfl ⟨1, (by decide), rfl, rfl⟩
    · refine lv_iconst (v := 0) hx hb dX5_writes_30 (by decide) ?_
      have hP := hP.sub (ws' := [(p0, .inr (4, [.int (nI nc), .ref b1, v2, .ref b3])), (b1, .inl (cI, 3, .inl (fun j => nI (L j)))), (b3, .inl (cI, 192, .inl pf)), (s0, .inr (7, [.ref s1])), (s1, .inl (cI, 34, .inl f))]) [3, 0, 4, 1, 2] rfl
      have hD := hD.sub (ws' := [(p0, .inr (4, [.int (nI nc), .ref b1, v2, .ref b3])), (b1, .inl (cI, 3, .inl (fun j => nI (L j)))), (b3, .inl (cI, 192, .inl pf)), (s0, .inr (7, [.ref s1])), (s1, .inl (cI, 34, .inl f))]) [3, 0, 4, 1, 2] (by decide) rfl
      exact gx_zret (w' := [(p0, .inr (4, [.int (nI nc), .ref b1, v2, .ref b3])), (b1, .inl (cI, 3, .inl (fun j => nI (L j)))), (b3, .inl (cI, 192, .inl pf)), (s0, .inr (7, [.ref s1])), (s1, .inl (cI, 34, .inl f))]) hx hb hr hlk hK hP hD hS (Nat.le_of_ble_eq_true rfl) (Nat.le_of_ble_eq_true rfl) dX5_writes_31 rfl ⟨0, (by decide), rfl, rfl⟩
theorem gW_c_storedTo : wsP_c_storedTo.all goodWord = true := by decide +kernel
def wsP_c_isRace : List Cond := .code yX5_isRace cX5_isRace 6 (some .boolean) :: (([.fieldLink RX5 58 "LitmusHall$Program" "cores" "I", .methodLink RX5 63 yX5_loadedCell, .static yX5_loadedCell, .initialized yX5_loadedCell.cls, .methodLink RX5 67 yX7_storedTo, .instanceMethod yX7_storedTo, .selects RX7 yX7_storedTo yX7_storedTo, .initialized RX7, .methodLink RX5 72 yX5_writes, .static yX5_writes, .initialized yX5_writes.cls, .fieldLink RX5 76 "LitmusHall$Race" "loader" "I", .fieldLink RX5 79 "LitmusHall$Race" "writer" "I", .fieldLink RX5 82 "LitmusHall$Race" "cell" "I"] ++ wsX40 ++ wsX50) ++ (wsP_c_loadedCell ++ (wsP_c_storedTo ++ (wsP_c_writes ++ []))))
theorem gW_c_isRace : wsP_c_isRace.all goodWord = true := by unfold wsP_c_isRace; exact gw_mk (by decide +kernel) (gw_app gW_c_loadedCell (gw_app gW_c_storedTo (gw_app gW_c_writes rfl)))
set_option maxRecDepth 20000 in
theorem gP_c_isRace__c_loadedCell : GoodIn wsP_c_isRace (va_wsS RX5 63 yX5_loadedCell wsP_c_loadedCell) := gw_in (pre := [.methodLink RX5 63 yX5_loadedCell, .static yX5_loadedCell, .initialized yX5_loadedCell.cls]) (by decide +kernel) (fun _ h => List.mem_cons_of_mem _ (List.mem_append_right _ (List.mem_append_left _ h))) gW_c_loadedCell
set_option maxRecDepth 20000 in
theorem gP_c_isRace__c_storedTo : GoodIn wsP_c_isRace (wsV RX5 67 RX7 yX7_storedTo wsP_c_storedTo) := gw_in (pre := [.methodLink RX5 67 yX7_storedTo, .instanceMethod yX7_storedTo, .selects RX7 yX7_storedTo yX7_storedTo, .initialized RX7]) (by decide +kernel) (fun _ h => List.mem_cons_of_mem _ (List.mem_append_right _ (List.mem_append_right _ (List.mem_append_left _ h)))) gW_c_storedTo
set_option maxRecDepth 20000 in
theorem gP_c_isRace__c_writes : GoodIn wsP_c_isRace (va_wsS RX5 72 yX5_writes wsP_c_writes) := gw_in (pre := [.methodLink RX5 72 yX5_writes, .static yX5_writes, .initialized yX5_writes.cls]) (by decide +kernel) (fun _ h => List.mem_cons_of_mem _ (List.mem_append_right _ (List.mem_append_right _ (List.mem_append_right _ (List.mem_append_left _ h))))) gW_c_writes
set_option maxHeartbeats 4000000 in
set_option maxRecDepth 100000 in
theorem c_isRace (l : Launch) (D : va_G) (cI cB cZ : ClassId) (h0 : Nat) (v0 : Value) (v1 : Value) (v5 : Value) (v6 : Value) (i2 : Int32) (i3 : Int32) (i4 : Int32) (p0 : Nat) (b1 : Nat) (b3 : Nat) (w2 : Value) (nc : Nat) (L : Nat → Nat) (pf : Nat → Int32) (s0 : Nat) (s1 : Nat) (f : Nat → Int32) (hc : nc ≤ 3) (hL : ∀ k, k < 3 → L k ≤ 8) : gMi l yX5_isRace wsP_c_isRace ({ frames := 3, cells := 0, slots := 0, locals := 69 }) D cI cB cZ [] [.ref h0, .ref p0, .ref s0] [(h0, .inr (5, [v0, v1, .int i2, .int i3, .int i4, v5, v6])), (p0, .inr (4, [.int (nI nc), .ref b1, w2, .ref b3])), (b1, .inl (cI, 3, .inl (fun j => nI (L j)))), (b3, .inl (cI, 192, .inl pf)), (s0, .inr (7, [.ref s1])), (s1, .inl (cI, 34, .inl f))] (fun r9 w9 => ∃ z : Int32, ∃ j2 : Int32, ∃ j3 : Int32, ∃ j4 : Int32, (gZ z) ∧ r9 = z ∧ w9 = [(h0, .inr (5, [v0, v1, .int j2, .int j3, .int j4, v5, v6])), (p0, .inr (4, [.int (nI nc), .ref b1, w2, .ref b3])), (b1, .inl (cI, 3, .inl (fun j => nI (L j)))), (b3, .inl (cI, 192, .inl pf)), (s0, .inr (7, [.ref s1])), (s1, .inl (cI, 34, .inl f))]) := by
  refine gMi.of (cc := cX5_isRace) (maxL := 6) (ret := (some .boolean)) (by decide) rfl (Nat.le_of_ble_eq_true rfl) (fun p e s m below meth c A ls hx hb hr hlk hml hts hown hin hA hP hK hD hS hN hl => ?_)
  have hown : s.vm.findClass RX5 = some m.cls := hown
  have hl : lv_has ls 6 [(0, .ref h0), (1, .ref p0), (2, .ref s0)] := hl
  refine lv_iconst (v := 0) hx hb dX5_isRace_0 (by decide) ?_
  refine lv_istore_n (lv' := [(3, .int 0), (0, .ref h0), (1, .ref p0), (2, .ref s0)]) hx hb dX5_isRace_1 rfl hl (by decide) rfl (fun ls hl => ?_)
  refine gy_loop0 (I := fun (x9 : Nat) H locs ls => (x9 ≤ nc) ∧ va_P D vwCl [(h0, .inr (5, [v0, v1, .int i2, .int i3, .int i4, v5, v6])), (p0, .inr (4, [.int (nI nc), .ref b1, w2, .ref b3])), (b1, .inl (cI, 3, .inl (fun j => nI (L j)))), (b3, .inl (cI, 192, .inl pf)), (s0, .inr (7, [.ref s1])), (s1, .inl (cI, 34, .inl f))] H ∧ va_D A [(h0, .inr (5, [v0, v1, .int i2, .int i3, .int i4, v5, v6])), (p0, .inr (4, [.int (nI nc), .ref b1, w2, .ref b3])), (b1, .inl (cI, 3, .inl (fun j => nI (L j)))), (b3, .inl (cI, 192, .inl pf)), (s0, .inr (7, [.ref s1])), (s1, .inl (cI, 34, .inl f))] ∧ va_S A s.heap H locs ∧ lv_has ls 6 [(3, .int (nI x9)), (0, .ref h0), (1, .ref p0), (2, .ref s0)]) (μ := fun (x9 : Nat) => nc - x9) (fun x9 H locs ls hI ih2 => ?_) 0 ⟨(by show 0 ≤ nc; exact Nat.zero_le _), hP, hD, hS, lv_sub hl [0, 1, 2, 3] rfl⟩
  obtain ⟨r, rfl⟩ : ∃ z9, z9 = x9 := ⟨_, rfl⟩
  obtain ⟨hi2_0, hP, hD, hS, hl⟩ := hI
  have hi2_0 : r ≤ nc := hi2_0
  have hP : va_P D vwCl [(h0, .inr (5, [v0, v1, .int i2, .int i3, .int i4, v5, v6])), (p0, .inr (4, [.int (nI nc), .ref b1, w2, .ref b3])), (b1, .inl (cI, 3, .inl (fun j => nI (L j)))), (b3, .inl (cI, 192, .inl pf)), (s0, .inr (7, [.ref s1])), (s1, .inl (cI, 34, .inl f))] H := hP
  have hD : va_D A [(h0, .inr (5, [v0, v1, .int i2, .int i3, .int i4, v5, v6])), (p0, .inr (4, [.int (nI nc), .ref b1, w2, .ref b3])), (b1, .inl (cI, 3, .inl (fun j => nI (L j)))), (b3, .inl (cI, 192, .inl pf)), (s0, .inr (7, [.ref s1])), (s1, .inl (cI, 34, .inl f))] := hD
  have hS : va_S A s.heap H locs := hS
  have hl : lv_has ls 6 [(3, .int (nI r)), (0, .ref h0), (1, .ref p0), (2, .ref s0)] := hl
  refine lv_iload_n hx hb dX5_isRace_2 rfl (lv_at hl 0 rfl) ?_
  refine lv_aload_n hx hb dX5_isRace_3 rfl (lv_at hl 2 rfl) ?_
  refine va_get (D := D) (ci := 4) (v := .int (nI nc)) (C := RX4) (T := TX4) (N := 4) hx hb hts (fun _ h => List.mem_cons_of_mem _ (List.mem_append_left _ (List.mem_append_left _ (List.mem_append_right _ h)))) hown hK hP 1 rfl rfl 0 (by decide) (hts (.fieldLink RX5 58 "LitmusHall$Program" "cores" "I") (by decide +kernel)) (fun _ h9 => h9) rfl dX5_isRace_4 ?_
  refine gy_ge (a := r) (b := nc) (tgt := 100) hx hb (by omega) (by omega) dX5_isRace_7 (by decide) (fun c_1 => ?_) (fun c_1 => ?_)
  · refine lv_iconst (v := 0) hx hb dX5_isRace_100 (by decide) ?_
    exact gx_zret (w' := [(h0, .inr (5, [v0, v1, .int i2, .int i3, .int i4, v5, v6])), (p0, .inr (4, [.int (nI nc), .ref b1, w2, .ref b3])), (b1, .inl (cI, 3, .inl (fun j => nI (L j)))), (b3, .inl (cI, 192, .inl pf)), (s0, .inr (7, [.ref s1])), (s1, .inl (cI, 34, .inl f))]) hx hb hr hlk hK hP hD hS (Nat.le_of_ble_eq_true rfl) (Nat.le_of_ble_eq_true rfl) dX5_isRace_101 rfl ⟨0, i2, i3, i4, (Or.inl rfl), rfl, rfl⟩
  · refine lv_aload_n hx hb dX5_isRace_10 rfl (lv_at hl 2 rfl) ?_
    refine lv_aload_n hx hb dX5_isRace_11 rfl (lv_at hl 3 rfl) ?_
    refine lv_iload_n hx hb dX5_isRace_12 rfl (lv_at hl 0 rfl) ?_
    refine gx_goi (wc := [(p0, .inr (4, [.int (nI nc), .ref b1, w2, .ref b3])), (b1, .inl (cI, 3, .inl (fun j => nI (L j)))), (b3, .inl (cI, 192, .inl pf)), (s0, .inr (7, [.ref s1])), (s1, .inl (cI, 34, .inl f))]) (wr := [(h0, .inr (5, [v0, v1, .int i2, .int i3, .int i4, v5, v6]))]) (va_runS (As := [.ref p0, .ref s0, .int (nI r)]) (rest := []) ⟨hx, hb, hml, hown, hts⟩ (c_loadedCell l D cI cB cZ p0 b1 b3 (w2) nc L pf s0 s1 f r (by omega) hL _) (va_cwS 3 hts gP_c_isRace__c_loadedCell rfl rfl rfl (by decide +kernel) ⟨Nat.le_of_ble_eq_true rfl, Nat.le_of_ble_eq_true rfl⟩) (gx_preS hK gN.nil hP hD [1, 2, 3, 4, 5] rfl rfl) rfl rfl hl.1 rfl (lv_room (Nat.le_of_ble_eq_true rfl)) dX5_isRace_13 ⟨Nat.le_of_ble_eq_true rfl, Nat.le_of_ble_eq_true rfl⟩) hP hD hS hA [1, 2, 3, 4, 5] [0] rfl rfl rfl (by decide) (fun r1 w1 H locs hp hP hD hS => ?_)
    obtain ⟨e_2, h9, rfl⟩ := hp
    have h9 := h9.symm
    subst h9
    refine lv_istore (lv' := [(4, .int e_2), (3, .int (nI r)), (0, .ref h0), (1, .ref p0), (2, .ref s0)]) hx hb dX5_isRace_16 hl (by decide) rfl (fun ls hl => ?_)
    refine lv_iload hx hb dX5_isRace_18 (lv_at hl 0 rfl) ?_
    refine lv_iconst (v := (-1)) hx hb dX5_isRace_20 (by decide) ?_
    refine lv_icmp_eq (tgt := 94) hx hb dX5_isRace_21 (by decide) (fun c_3 => ?_) (fun c_3 => ?_)
    · refine lv_iinc (v := nI (r + 1)) (lv' := [(3, .int (nI (r + 1))), (4, .int e_2), (0, .ref h0), (1, .ref p0), (2, .ref s0)]) hx hb dX5_isRace_94 hl (k := 1) rfl (nI_add r 1) (by decide) rfl (fun ls hl => ?_)
      refine lv_goto (tgt := 2) hx hb dX5_isRace_97 (by decide) ?_
      exact ih2 (r + 1) H locs ls ⟨(by show (r + 1) ≤ nc; omega), hP, hD, hS, lv_sub hl [0, 2, 3, 4] rfl⟩ (by show nc - (r + 1) < nc - r; omega)
    · refine lv_aload_n hx hb dX5_isRace_24 rfl (lv_at hl 4 rfl) ?_
      refine lv_iload_n hx hb dX5_isRace_25 rfl (lv_at hl 1 rfl) ?_
      refine gx_goi (wc := [(s0, .inr (7, [.ref s1])), (s1, .inl (cI, 34, .inl f))]) (wr := [(h0, .inr (5, [v0, v1, .int i2, .int i3, .int i4, v5, v6])), (p0, .inr (4, [.int (nI nc), .ref b1, w2, .ref b3])), (b1, .inl (cI, 3, .inl (fun j => nI (L j)))), (b3, .inl (cI, 192, .inl pf))]) (va_runV (As := [.int (nI r)]) (rest := []) ⟨hx, hb, hml, hown, hts⟩ (c_storedTo l D cI cB cZ s0 s1 f r (by omega) _) (cwV 1 hts gP_c_isRace__c_storedTo rfl rfl rfl (by decide +kernel) ⟨Nat.le_of_ble_eq_true rfl, Nat.le_of_ble_eq_true rfl⟩) (gx_preV (ci := 7) (q0 := 0) hK gN.nil hP hD [4, 5] rfl rfl rfl rfl) rfl rfl hl.1 rfl (lv_room (Nat.le_of_ble_eq_true rfl)) dX5_isRace_26 ⟨Nat.le_of_ble_eq_true rfl, Nat.le_of_ble_eq_true rfl⟩) hP hD hS hA [4, 5] [0, 1, 2, 3] rfl rfl rfl (by decide) (fun r1 w1 H locs hp hP hD hS => ?_)
      obtain ⟨e_4, hq_5, h9, rfl⟩ := hp
      have h9 := h9.symm
      subst h9
      have hq_5 : e_4 < 16 := hq_5
      refine lv_iconst (v := 1) hx hb dX5_isRace_29 (by decide) ?_
      refine lv_iload hx hb dX5_isRace_30 (lv_at hl 0 rfl) ?_
      refine lv_ishl hx hb dX5_isRace_32 ?_
      refine gx_gen (fun z_6 => ?_)
      refine lv_iconst (v := (-1)) hx hb dX5_isRace_33 (by decide) ?_
      refine lv_ixor hx hb dX5_isRace_34 ?_
      refine gx_gen (fun z_7 => ?_)
      refine lv_iand hx hb dX5_isRace_35 ?_
      refine gx_gen (fun z_8 => ?_)
      refine lv_if_eq (tgt := 94) hx hb dX5_isRace_36 (by decide) (fun c_9 => ?_) (fun c_9 => ?_)
      · refine lv_iinc (v := nI (r + 1)) (lv' := [(3, .int (nI (r + 1))), (4, .int e_2), (0, .ref h0), (1, .ref p0), (2, .ref s0)]) hx hb dX5_isRace_94 hl (k := 1) rfl (nI_add r 1) (by decide) rfl (fun ls hl => ?_)
        refine lv_goto (tgt := 2) hx hb dX5_isRace_97 (by decide) ?_
        exact ih2 (r + 1) H locs ls ⟨(by show (r + 1) ≤ nc; omega), hP, hD, hS, lv_sub hl [0, 2, 3, 4] rfl⟩ (by show nc - (r + 1) < nc - r; omega)
      · refine lv_iconst (v := 0) hx hb dX5_isRace_39 (by decide) ?_
        refine lv_istore (lv' := [(5, .int 0), (4, .int e_2), (3, .int (nI r)), (0, .ref h0), (1, .ref p0), (2, .ref s0)]) hx hb dX5_isRace_40 hl (by decide) rfl (fun ls hl => ?_)
        refine gy_loop0 (I := fun (x9 : Nat) H locs ls => (x9 ≤ nc) ∧ va_P D vwCl [(h0, .inr (5, [v0, v1, .int i2, .int i3, .int i4, v5, v6])), (p0, .inr (4, [.int (nI nc), .ref b1, w2, .ref b3])), (b1, .inl (cI, 3, .inl (fun j => nI (L j)))), (b3, .inl (cI, 192, .inl pf)), (s0, .inr (7, [.ref s1])), (s1, .inl (cI, 34, .inl f))] H ∧ va_D A [(h0, .inr (5, [v0, v1, .int i2, .int i3, .int i4, v5, v6])), (p0, .inr (4, [.int (nI nc), .ref b1, w2, .ref b3])), (b1, .inl (cI, 3, .inl (fun j => nI (L j)))), (b3, .inl (cI, 192, .inl pf)), (s0, .inr (7, [.ref s1])), (s1, .inl (cI, 34, .inl f))] ∧ va_S A s.heap H locs ∧ lv_has ls 6 [(5, .int (nI x9)), (4, .int e_2), (3, .int (nI r)), (0, .ref h0), (1, .ref p0), (2, .ref s0)]) (μ := fun (x9 : Nat) => nc - x9) (fun x9 H locs ls hI ih42 => ?_) 0 ⟨(by show 0 ≤ nc; exact Nat.zero_le _), hP, hD, hS, lv_sub hl [0, 1, 2, 3, 4, 5] rfl⟩
        obtain ⟨w, rfl⟩ : ∃ z9, z9 = x9 := ⟨_, rfl⟩
        obtain ⟨hi42_0, hP, hD, hS, hl⟩ := hI
        have hi42_0 : w ≤ nc := hi42_0
        have hP : va_P D vwCl [(h0, .inr (5, [v0, v1, .int i2, .int i3, .int i4, v5, v6])), (p0, .inr (4, [.int (nI nc), .ref b1, w2, .ref b3])), (b1, .inl (cI, 3, .inl (fun j => nI (L j)))), (b3, .inl (cI, 192, .inl pf)), (s0, .inr (7, [.ref s1])), (s1, .inl (cI, 34, .inl f))] H := hP
        have hD : va_D A [(h0, .inr (5, [v0, v1, .int i2, .int i3, .int i4, v5, v6])), (p0, .inr (4, [.int (nI nc), .ref b1, w2, .ref b3])), (b1, .inl (cI, 3, .inl (fun j => nI (L j)))), (b3, .inl (cI, 192, .inl pf)), (s0, .inr (7, [.ref s1])), (s1, .inl (cI, 34, .inl f))] := hD
        have hS : va_S A s.heap H locs := hS
        have hl : lv_has ls 6 [(5, .int (nI w)), (4, .int e_2), (3, .int (nI r)), (0, .ref h0), (1, .ref p0), (2, .ref s0)] := hl
        refine lv_iload hx hb dX5_isRace_42 (lv_at hl 0 rfl) ?_
        refine lv_aload_n hx hb dX5_isRace_44 rfl (lv_at hl 4 rfl) ?_
        refine va_get (D := D) (ci := 4) (v := .int (nI nc)) (C := RX4) (T := TX4) (N := 4) hx hb hts (fun _ h => List.mem_cons_of_mem _ (List.mem_append_left _ (List.mem_append_left _ (List.mem_append_right _ h)))) hown hK hP 1 rfl rfl 0 (by decide) (hts (.fieldLink RX5 58 "LitmusHall$Program" "cores" "I") (by decide +kernel)) (fun _ h9 => h9) rfl dX5_isRace_45 ?_
        refine gy_ge (a := w) (b := nc) (tgt := 94) hx hb (by omega) (by omega) dX5_isRace_48 (by decide) (fun c_10 => ?_) (fun c_10 => ?_)
        · refine lv_iinc (v := nI (r + 1)) (lv' := [(3, .int (nI (r + 1))), (5, .int (nI w)), (4, .int e_2), (0, .ref h0), (1, .ref p0), (2, .ref s0)]) hx hb dX5_isRace_94 hl (k := 2) rfl (nI_add r 1) (by decide) rfl (fun ls hl => ?_)
          refine lv_goto (tgt := 2) hx hb dX5_isRace_97 (by decide) ?_
          exact ih2 (r + 1) H locs ls ⟨(by show (r + 1) ≤ nc; omega), hP, hD, hS, lv_sub hl [0, 3, 4, 5] rfl⟩ (by show nc - (r + 1) < nc - r; omega)
        · refine lv_iload hx hb dX5_isRace_51 (lv_at hl 0 rfl) ?_
          refine lv_iload_n hx hb dX5_isRace_53 rfl (lv_at hl 2 rfl) ?_
          refine gy_eq (a := w) (b := r) (tgt := 88) hx hb (by omega) (by omega) dX5_isRace_54 (by decide) (fun c_11 => ?_) (fun c_11 => ?_)
          · refine lv_iinc (v := nI (w + 1)) (lv' := [(5, .int (nI (w + 1))), (4, .int e_2), (3, .int (nI r)), (0, .ref h0), (1, .ref p0), (2, .ref s0)]) hx hb dX5_isRace_88 hl (k := 0) rfl (nI_add w 1) (by decide) rfl (fun ls hl => ?_)
            refine lv_goto (tgt := 42) hx hb dX5_isRace_91 (by decide) ?_
            exact ih42 (w + 1) H locs ls ⟨(by show (w + 1) ≤ nc; omega), hP, hD, hS, lv_sub hl [0, 1, 2, 3, 4, 5] rfl⟩ (by show nc - (w + 1) < nc - w; omega)
          · refine lv_aload_n hx hb dX5_isRace_57 rfl (lv_at hl 4 rfl) ?_
            refine lv_aload_n hx hb dX5_isRace_58 rfl (lv_at hl 5 rfl) ?_
            refine lv_iload hx hb dX5_isRace_59 (lv_at hl 0 rfl) ?_
            refine lv_iload hx hb dX5_isRace_61 (lv_at hl 1 rfl) ?_
            refine gx_goi (wc := [(p0, .inr (4, [.int (nI nc), .ref b1, w2, .ref b3])), (b1, .inl (cI, 3, .inl (fun j => nI (L j)))), (b3, .inl (cI, 192, .inl pf)), (s0, .inr (7, [.ref s1])), (s1, .inl (cI, 34, .inl f))]) (wr := [(h0, .inr (5, [v0, v1, .int i2, .int i3, .int i4, v5, v6]))]) (va_runS (As := [.ref p0, .ref s0, .int (nI w), .int e_2]) (rest := []) ⟨hx, hb, hml, hown, hts⟩ (c_writes l D cI cB cZ p0 b1 b3 (w2) nc L pf s0 s1 f w e_2 (by omega) hL _) (va_cwS 4 hts gP_c_isRace__c_writes rfl rfl rfl (by decide +kernel) ⟨Nat.le_of_ble_eq_true rfl, Nat.le_of_ble_eq_true rfl⟩) (gx_preS hK gN.nil hP hD [1, 2, 3, 4, 5] rfl rfl) rfl rfl hl.1 rfl (lv_room (Nat.le_of_ble_eq_true rfl)) dX5_isRace_63 ⟨Nat.le_of_ble_eq_true rfl, Nat.le_of_ble_eq_true rfl⟩) hP hD hS hA [1, 2, 3, 4, 5] [0] rfl rfl rfl (by decide) (fun r1 w1 H locs hp hP hD hS => ?_)
            obtain ⟨e_12, hq_13, h9, rfl⟩ := hp
            have h9 := h9.symm
            subst h9
            have hq_13 : e_12 = 0 ∨ e_12 = 1 := hq_13
            refine lv_if_eq (tgt := 88) hx hb dX5_isRace_66 (by decide) (fun c_14 => ?_) (fun c_14 => ?_)
            · refine lv_iinc (v := nI (w + 1)) (lv' := [(5, .int (nI (w + 1))), (4, .int e_2), (3, .int (nI r)), (0, .ref h0), (1, .ref p0), (2, .ref s0)]) hx hb dX5_isRace_88 hl (k := 0) rfl (nI_add w 1) (by decide) rfl (fun ls hl => ?_)
              refine lv_goto (tgt := 42) hx hb dX5_isRace_91 (by decide) ?_
              exact ih42 (w + 1) H locs ls ⟨(by show (w + 1) ≤ nc; omega), hP, hD, hS, lv_sub hl [0, 1, 2, 3, 4, 5] rfl⟩ (by show nc - (w + 1) < nc - w; omega)
            · refine lv_aload_n hx hb dX5_isRace_69 rfl (lv_at hl 3 rfl) ?_
              refine lv_iload_n hx hb dX5_isRace_70 rfl (lv_at hl 2 rfl) ?_
              refine va_put (D := D) (ci := 5) (v := .int (nI r)) (ty := .int) (C := RX5) (T := TX5) (N := 7) hx hb hts (fun _ h => List.mem_cons_of_mem _ (List.mem_append_left _ (List.mem_append_right _ h))) tyX5 tyX5_ok nmX5 hown hK hP hD hS 0 rfl rfl 2 (by decide) (hts (.fieldLink RX5 76 "LitmusHall$Race" "loader" "I") (by decide +kernel)) (fun _ h9 => h9) rfl (by decide +kernel) rfl rfl (Nat.le_of_ble_eq_true rfl) dX5_isRace_71 (fun H locs hP hD hS => ?_)
              have hP : va_P D vwCl [(h0, .inr (5, [v0, v1, .int (nI r), .int i3, .int i4, v5, v6])), (p0, .inr (4, [.int (nI nc), .ref b1, w2, .ref b3])), (b1, .inl (cI, 3, .inl (fun j => nI (L j)))), (b3, .inl (cI, 192, .inl pf)), (s0, .inr (7, [.ref s1])), (s1, .inl (cI, 34, .inl f))] H := hP
              have hD : va_D A [(h0, .inr (5, [v0, v1, .int (nI r), .int i3, .int i4, v5, v6])), (p0, .inr (4, [.int (nI nc), .ref b1, w2, .ref b3])), (b1, .inl (cI, 3, .inl (fun j => nI (L j)))), (b3, .inl (cI, 192, .inl pf)), (s0, .inr (7, [.ref s1])), (s1, .inl (cI, 34, .inl f))] := hD
              refine lv_aload_n hx hb dX5_isRace_74 rfl (lv_at hl 3 rfl) ?_
              refine lv_iload hx hb dX5_isRace_75 (lv_at hl 0 rfl) ?_
              refine va_put (D := D) (ci := 5) (v := .int (nI w)) (ty := .int) (C := RX5) (T := TX5) (N := 7) hx hb hts (fun _ h => List.mem_cons_of_mem _ (List.mem_append_left _ (List.mem_append_right _ h))) tyX5 tyX5_ok nmX5 hown hK hP hD hS 0 rfl rfl 3 (by decide) (hts (.fieldLink RX5 79 "LitmusHall$Race" "writer" "I") (by decide +kernel)) (fun _ h9 => h9) rfl (by decide +kernel) rfl rfl (Nat.le_of_ble_eq_true rfl) dX5_isRace_77 (fun H locs hP hD hS => ?_)
              have hP : va_P D vwCl [(h0, .inr (5, [v0, v1, .int (nI r), .int (nI w), .int i4, v5, v6])), (p0, .inr (4, [.int (nI nc), .ref b1, w2, .ref b3])), (b1, .inl (cI, 3, .inl (fun j => nI (L j)))), (b3, .inl (cI, 192, .inl pf)), (s0, .inr (7, [.ref s1])), (s1, .inl (cI, 34, .inl f))] H := hP
              have hD : va_D A [(h0, .inr (5, [v0, v1, .int (nI r), .int (nI w), .int i4, v5, v6])), (p0, .inr (4, [.int (nI nc), .ref b1, w2, .ref b3])), (b1, .inl (cI, 3, .inl (fun j => nI (L j)))), (b3, .inl (cI, 192, .inl pf)), (s0, .inr (7, [.ref s1])), (s1, .inl (cI, 34, .inl f))] := hD
              refine lv_aload_n hx hb dX5_isRace_80 rfl (lv_at hl 3 rfl) ?_
              refine lv_iload hx hb dX5_isRace_81 (lv_at hl 1 rfl) ?_
              refine va_put (D := D) (ci := 5) (v := .int e_2) (ty := .int) (C := RX5) (T := TX5) (N := 7) hx hb hts (fun _ h => List.mem_cons_of_mem _ (List.mem_append_left _ (List.mem_append_right _ h))) tyX5 tyX5_ok nmX5 hown hK hP hD hS 0 rfl rfl 4 (by decide) (hts (.fieldLink RX5 82 "LitmusHall$Race" "cell" "I") (by decide +kernel)) (fun _ h9 => h9) rfl (by decide +kernel) rfl rfl (Nat.le_of_ble_eq_true rfl) dX5_isRace_83 (fun H locs hP hD hS => ?_)
              have hP : va_P D vwCl [(h0, .inr (5, [v0, v1, .int (nI r), .int (nI w), .int e_2, v5, v6])), (p0, .inr (4, [.int (nI nc), .ref b1, w2, .ref b3])), (b1, .inl (cI, 3, .inl (fun j => nI (L j)))), (b3, .inl (cI, 192, .inl pf)), (s0, .inr (7, [.ref s1])), (s1, .inl (cI, 34, .inl f))] H := hP
              have hD : va_D A [(h0, .inr (5, [v0, v1, .int (nI r), .int (nI w), .int e_2, v5, v6])), (p0, .inr (4, [.int (nI nc), .ref b1, w2, .ref b3])), (b1, .inl (cI, 3, .inl (fun j => nI (L j)))), (b3, .inl (cI, 192, .inl pf)), (s0, .inr (7, [.ref s1])), (s1, .inl (cI, 34, .inl f))] := hD
              refine lv_iconst (v := 1) hx hb dX5_isRace_86 (by decide) ?_
              exact gx_zret (w' := [(h0, .inr (5, [v0, v1, .int (nI r), .int (nI w), .int e_2, v5, v6])), (p0, .inr (4, [.int (nI nc), .ref b1, w2, .ref b3])), (b1, .inl (cI, 3, .inl (fun j => nI (L j)))), (b3, .inl (cI, 192, .inl pf)), (s0, .inr (7, [.ref s1])), (s1, .inl (cI, 34, .inl f))]) hx hb hr hlk hK hP hD hS (Nat.le_of_ble_eq_true rfl) (Nat.le_of_ble_eq_true rfl) dX5_isRace_87 rfl ⟨1, (nI r), (nI w), e_2, (Or.inr rfl), rfl, rfl⟩
def wsP_c_tell : List Cond := .code yX5_tell cX5_tell 3 (some .int) :: (([.fieldLink RX5 19 "LitmusHall$Race" "answer" "I", .fieldLink RX5 76 "LitmusHall$Race" "loader" "I", .fieldLink RX5 79 "LitmusHall$Race" "writer" "I", .fieldLink RX5 82 "LitmusHall$Race" "cell" "I", .fieldLink RX5 48 "LitmusHall$Race" "steps" "I", .fieldLink RX5 9 "LitmusHall$Race" "path" "[I"] ++ wsX50) ++ [])
theorem gW_c_tell : wsP_c_tell.all goodWord = true := by unfold wsP_c_tell; exact gw_mk (by decide +kernel) rfl
set_option maxHeartbeats 4000000 in
set_option maxRecDepth 100000 in
theorem c_tell (l : Launch) (D : va_G) (cI cB cZ : ClassId) (h0 : Nat) (a6 : Nat) (v0 : Value) (an : Int32) (i2 : Int32) (i3 : Int32) (i4 : Int32) (t : Nat) (pa : Nat → Int32) (x : Int32) (ht : t ≤ 38) : gMi l yX5_tell wsP_c_tell ({ frames := 0, cells := 0, slots := 0, locals := 0 }) D cI cB cZ [] [.ref h0, .int x] [(h0, .inr (5, [v0, .int an, .int i2, .int i3, .int i4, .int (nI t), .ref a6])), (a6, .inl (cI, 38, .inl pa))] (fun r9 w9 => ∃ z : Int32, r9 = z ∧ w9 = [(h0, .inr (5, [v0, .int an, .int i2, .int i3, .int i4, .int (nI t), .ref a6])), (a6, .inl (cI, 38, .inl pa))]) := by
  refine gMi.of (cc := cX5_tell) (maxL := 3) (ret := (some .int)) (by decide) rfl (Nat.le_of_ble_eq_true rfl) (fun p e s m below meth c A ls hx hb hr hlk hml hts hown hin hA hP hK hD hS hN hl => ?_)
  have hown : s.vm.findClass RX5 = some m.cls := hown
  have hl : lv_has ls 3 [(0, .ref h0), (1, .int x)] := hl
  refine lv_aload_n hx hb dX5_tell_0 rfl (lv_at hl 0 rfl) ?_
  refine va_get (D := D) (ci := 5) (v := .int an) (C := RX5) (T := TX5) (N := 7) hx hb hts (fun _ h => List.mem_cons_of_mem _ (List.mem_append_left _ (List.mem_append_right _ h))) hown hK hP 0 rfl rfl 1 (by decide) (hts (.fieldLink RX5 19 "LitmusHall$Race" "answer" "I") (by decide +kernel)) (fun _ h9 => h9) rfl dX5_tell_1 ?_
  refine lv_iconst (v := 1) hx hb dX5_tell_4 (by decide) ?_
  refine lv_icmp_ne (tgt := 12) hx hb dX5_tell_5 (by decide) (fun c_1 => ?_) (fun c_1 => ?_)
  · refine lv_iconst (v := (-1)) hx hb dX5_tell_12 (by decide) ?_
    exact gx_iret (w' := [(h0, .inr (5, [v0, .int an, .int i2, .int i3, .int i4, .int (nI t), .ref a6])), (a6, .inl (cI, 38, .inl pa))]) hx hb hr hlk hK hP hD hS (Nat.le_of_ble_eq_true rfl) (Nat.le_of_ble_eq_true rfl) dX5_tell_13 ⟨(-1), rfl, rfl⟩
  · refine lv_iload_n hx hb dX5_tell_8 rfl (lv_at hl 1 rfl) ?_
    refine lv_if_ge (tgt := 14) hx hb dX5_tell_9 (by decide) (fun c_2 => ?_) (fun c_2 => ?_)
    · obtain ⟨j, hj, rfl⟩ := nI_of (x := x) (Int32.not_lt.mpr c_2)
      have hl : lv_has ls 3 [(0, .ref h0), (1, .int (nI j))] := hl
      refine lv_iload_n hx hb dX5_tell_14 rfl (lv_at hl 1 rfl) ?_
      rcases (show j = 0 ∨ j = 1 ∨ j = 2 ∨ 2 < j by omega) with rfl | rfl | rfl | htsw
      · refine lv_tableIn (off := 25) (tgt := 40) hx hb dX5_tell_15 (by decide +kernel) (by decide +kernel) (by decide +kernel) (by decide) ?_
        have hl : lv_has ls 3 [(0, .ref h0), (1, .int 0)] := hl
        refine lv_aload_n hx hb dX5_tell_40 rfl (lv_at hl 0 rfl) ?_
        refine va_get (D := D) (ci := 5) (v := .int i2) (C := RX5) (T := TX5) (N := 7) hx hb hts (fun _ h => List.mem_cons_of_mem _ (List.mem_append_left _ (List.mem_append_right _ h))) hown hK hP 0 rfl rfl 2 (by decide) (hts (.fieldLink RX5 76 "LitmusHall$Race" "loader" "I") (by decide +kernel)) (fun _ h9 => h9) rfl dX5_tell_41 ?_
        exact gx_iret (w' := [(h0, .inr (5, [v0, .int an, .int i2, .int i3, .int i4, .int (nI t), .ref a6])), (a6, .inl (cI, 38, .inl pa))]) hx hb hr hlk hK hP hD hS (Nat.le_of_ble_eq_true rfl) (Nat.le_of_ble_eq_true rfl) dX5_tell_44 ⟨i2, rfl, rfl⟩
      · refine lv_tableIn (off := 30) (tgt := 45) hx hb dX5_tell_15 (by decide +kernel) (by decide +kernel) (by decide +kernel) (by decide) ?_
        have hl : lv_has ls 3 [(0, .ref h0), (1, .int 1)] := hl
        refine lv_aload_n hx hb dX5_tell_45 rfl (lv_at hl 0 rfl) ?_
        refine va_get (D := D) (ci := 5) (v := .int i3) (C := RX5) (T := TX5) (N := 7) hx hb hts (fun _ h => List.mem_cons_of_mem _ (List.mem_append_left _ (List.mem_append_right _ h))) hown hK hP 0 rfl rfl 3 (by decide) (hts (.fieldLink RX5 79 "LitmusHall$Race" "writer" "I") (by decide +kernel)) (fun _ h9 => h9) rfl dX5_tell_46 ?_
        exact gx_iret (w' := [(h0, .inr (5, [v0, .int an, .int i2, .int i3, .int i4, .int (nI t), .ref a6])), (a6, .inl (cI, 38, .inl pa))]) hx hb hr hlk hK hP hD hS (Nat.le_of_ble_eq_true rfl) (Nat.le_of_ble_eq_true rfl) dX5_tell_49 ⟨i3, rfl, rfl⟩
      · refine lv_tableIn (off := 35) (tgt := 50) hx hb dX5_tell_15 (by decide +kernel) (by decide +kernel) (by decide +kernel) (by decide) ?_
        have hl : lv_has ls 3 [(0, .ref h0), (1, .int 2)] := hl
        refine lv_aload_n hx hb dX5_tell_50 rfl (lv_at hl 0 rfl) ?_
        refine va_get (D := D) (ci := 5) (v := .int i4) (C := RX5) (T := TX5) (N := 7) hx hb hts (fun _ h => List.mem_cons_of_mem _ (List.mem_append_left _ (List.mem_append_right _ h))) hown hK hP 0 rfl rfl 4 (by decide) (hts (.fieldLink RX5 82 "LitmusHall$Race" "cell" "I") (by decide +kernel)) (fun _ h9 => h9) rfl dX5_tell_51 ?_
        exact gx_iret (w' := [(h0, .inr (5, [v0, .int an, .int i2, .int i3, .int i4, .int (nI t), .ref a6])), (a6, .inl (cI, 38, .inl pa))]) hx hb hr hlk hK hP hD hS (Nat.le_of_ble_eq_true rfl) (Nat.le_of_ble_eq_true rfl) dX5_tell_54 ⟨i4, rfl, rfl⟩
      · refine lv_tableOut (tgt := 55) hx hb dX5_tell_15 (Or.inr (by rw [nI_toInt (by omega)]; omega)) (by decide) ?_
        refine lv_iload_n hx hb dX5_tell_55 rfl (lv_at hl 1 rfl) ?_
        refine lv_iconst (v := 3) hx hb dX5_tell_56 (by decide) ?_
        refine lv_isub hx hb dX5_tell_57 ?_
        refine gx_top (y := nI (j - 3)) (pk_sub (a := j) (b := 3) (by omega)) ?_
        refine lv_istore_n (lv' := [(2, .int (nI (j - 3))), (0, .ref h0), (1, .int (nI j))]) hx hb dX5_tell_58 rfl hl (by decide) rfl (fun ls hl => ?_)
        refine lv_iload_n hx hb dX5_tell_59 rfl (lv_at hl 0 rfl) ?_
        refine lv_aload_n hx hb dX5_tell_60 rfl (lv_at hl 1 rfl) ?_
        refine va_get (D := D) (ci := 5) (v := .int (nI t)) (C := RX5) (T := TX5) (N := 7) hx hb hts (fun _ h => List.mem_cons_of_mem _ (List.mem_append_left _ (List.mem_append_right _ h))) hown hK hP 0 rfl rfl 5 (by decide) (hts (.fieldLink RX5 48 "LitmusHall$Race" "steps" "I") (by decide +kernel)) (fun _ h9 => h9) rfl dX5_tell_61 ?_
        refine gy_ge (a := (j - 3)) (b := t) (tgt := 76) hx hb (by omega) (by omega) dX5_tell_64 (by decide) (fun c_3 => ?_) (fun c_3 => ?_)
        · refine lv_iconst (v := (-1)) hx hb dX5_tell_76 (by decide) ?_
          exact gx_iret (w' := [(h0, .inr (5, [v0, .int an, .int i2, .int i3, .int i4, .int (nI t), .ref a6])), (a6, .inl (cI, 38, .inl pa))]) hx hb hr hlk hK hP hD hS (Nat.le_of_ble_eq_true rfl) (Nat.le_of_ble_eq_true rfl) dX5_tell_77 ⟨(-1), rfl, rfl⟩
        · refine lv_aload_n hx hb dX5_tell_67 rfl (lv_at hl 1 rfl) ?_
          refine va_get (D := D) (ci := 5) (v := .ref a6) (C := RX5) (T := TX5) (N := 7) hx hb hts (fun _ h => List.mem_cons_of_mem _ (List.mem_append_left _ (List.mem_append_right _ h))) hown hK hP 0 rfl rfl 6 (by decide) (hts (.fieldLink RX5 9 "LitmusHall$Race" "path" "[I") (by decide +kernel)) (fun _ h9 => h9) rfl dX5_tell_68 ?_
          refine lv_iload_n hx hb dX5_tell_71 rfl (lv_at hl 0 rfl) ?_
          refine gy_ild (i := (j - 3)) hx hb hK hP 1 rfl (by omega) (by omega) dX5_tell_72 ?_
          refine gx_gen (fun z_4 => ?_)
          refine lv_goto (tgt := 77) hx hb dX5_tell_73 (by decide) ?_
          exact gx_iret (w' := [(h0, .inr (5, [v0, .int an, .int i2, .int i3, .int i4, .int (nI t), .ref a6])), (a6, .inl (cI, 38, .inl pa))]) hx hb hr hlk hK hP hD hS (Nat.le_of_ble_eq_true rfl) (Nat.le_of_ble_eq_true rfl) dX5_tell_77 ⟨z_4, rfl, rfl⟩
    · refine lv_iconst (v := (-1)) hx hb dX5_tell_12 (by decide) ?_
      exact gx_iret (w' := [(h0, .inr (5, [v0, .int an, .int i2, .int i3, .int i4, .int (nI t), .ref a6])), (a6, .inl (cI, 38, .inl pa))]) hx hb hr hlk hK hP hD hS (Nat.le_of_ble_eq_true rfl) (Nat.le_of_ble_eq_true rfl) dX5_tell_13 ⟨(-1), rfl, rfl⟩
