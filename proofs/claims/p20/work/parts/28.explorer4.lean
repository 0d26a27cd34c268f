theorem dX1_addEnd_0 : decode cX1_addEnd 0 = .ok (.iconst 0, 1) := by decide +kernel
theorem dX1_addEnd_1 : decode cX1_addEnd 1 = .ok (.istore_n 2, 1) := by decide +kernel
theorem dX1_addEnd_10 : decode cX1_addEnd 10 = .ok (.iload 4, 2) := by decide +kernel
theorem dX1_addEnd_100 : decode cX1_addEnd 100 = .ok (.return_, 1) := by decide +kernel
theorem dX1_addEnd_12 : decode cX1_addEnd 12 = .ok (.sipush 3000, 3) := by decide +kernel
theorem dX1_addEnd_15 : decode cX1_addEnd 15 = .ok (.if_icmp .ge 47, 3) := by decide +kernel
theorem dX1_addEnd_18 : decode cX1_addEnd 18 = .ok (.iload_n 2, 1) := by decide +kernel
theorem dX1_addEnd_19 : decode cX1_addEnd 19 = .ok (.iload_n 3, 1) := by decide +kernel
theorem dX1_addEnd_2 : decode cX1_addEnd 2 = .ok (.aload_n 0, 1) := by decide +kernel
theorem dX1_addEnd_20 : decode cX1_addEnd 20 = .ok (.if_icmp .ge 42, 3) := by decide +kernel
theorem dX1_addEnd_23 : decode cX1_addEnd 23 = .ok (.iload_n 2, 1) := by decide +kernel
theorem dX1_addEnd_24 : decode cX1_addEnd 24 = .ok (.iload_n 3, 1) := by decide +kernel
theorem dX1_addEnd_25 : decode cX1_addEnd 25 = .ok (.iadd, 1) := by decide +kernel
theorem dX1_addEnd_26 : decode cX1_addEnd 26 = .ok (.iconst 2, 1) := by decide +kernel
theorem dX1_addEnd_27 : decode cX1_addEnd 27 = .ok (.idiv, 1) := by decide +kernel
theorem dX1_addEnd_28 : decode cX1_addEnd 28 = .ok (.istore 5, 2) := by decide +kernel
theorem dX1_addEnd_3 : decode cX1_addEnd 3 = .ok (.getfield 50, 3) := by decide +kernel
theorem dX1_addEnd_30 : decode cX1_addEnd 30 = .ok (.aload_n 0, 1) := by decide +kernel
theorem dX1_addEnd_31 : decode cX1_addEnd 31 = .ok (.aload_n 0, 1) := by decide +kernel
theorem dX1_addEnd_32 : decode cX1_addEnd 32 = .ok (.getfield 13, 3) := by decide +kernel
theorem dX1_addEnd_35 : decode cX1_addEnd 35 = .ok (.iload 5, 2) := by decide +kernel
theorem dX1_addEnd_37 : decode cX1_addEnd 37 = .ok (.iaload, 1) := by decide +kernel
theorem dX1_addEnd_38 : decode cX1_addEnd 38 = .ok (.iload_n 1, 1) := by decide +kernel
theorem dX1_addEnd_39 : decode cX1_addEnd 39 = .ok (.invokevirtual 117, 3) := by decide +kernel
theorem dX1_addEnd_42 : decode cX1_addEnd 42 = .ok (.ifCond .eq 11, 3) := by decide +kernel
theorem dX1_addEnd_45 : decode cX1_addEnd 45 = .ok (.iload 5, 2) := by decide +kernel
theorem dX1_addEnd_47 : decode cX1_addEnd 47 = .ok (.iconst 1, 1) := by decide +kernel
theorem dX1_addEnd_48 : decode cX1_addEnd 48 = .ok (.iadd, 1) := by decide +kernel
theorem dX1_addEnd_49 : decode cX1_addEnd 49 = .ok (.istore_n 2, 1) := by decide +kernel
theorem dX1_addEnd_50 : decode cX1_addEnd 50 = .ok (.goto 6, 3) := by decide +kernel
theorem dX1_addEnd_53 : decode cX1_addEnd 53 = .ok (.iload 5, 2) := by decide +kernel
theorem dX1_addEnd_55 : decode cX1_addEnd 55 = .ok (.istore_n 3, 1) := by decide +kernel
theorem dX1_addEnd_56 : decode cX1_addEnd 56 = .ok (.iinc 4 1, 3) := by decide +kernel
theorem dX1_addEnd_59 : decode cX1_addEnd 59 = .ok (.goto (-49), 3) := by decide +kernel
theorem dX1_addEnd_6 : decode cX1_addEnd 6 = .ok (.istore_n 3, 1) := by decide +kernel
theorem dX1_addEnd_62 : decode cX1_addEnd 62 = .ok (.aload_n 0, 1) := by decide +kernel
theorem dX1_addEnd_63 : decode cX1_addEnd 63 = .ok (.getfield 13, 3) := by decide +kernel
theorem dX1_addEnd_66 : decode cX1_addEnd 66 = .ok (.iload_n 2, 1) := by decide +kernel
theorem dX1_addEnd_67 : decode cX1_addEnd 67 = .ok (.aload_n 0, 1) := by decide +kernel
theorem dX1_addEnd_68 : decode cX1_addEnd 68 = .ok (.getfield 13, 3) := by decide +kernel
theorem dX1_addEnd_7 : decode cX1_addEnd 7 = .ok (.iconst 0, 1) := by decide +kernel
theorem dX1_addEnd_71 : decode cX1_addEnd 71 = .ok (.iload_n 2, 1) := by decide +kernel
theorem dX1_addEnd_72 : decode cX1_addEnd 72 = .ok (.iconst 1, 1) := by decide +kernel
theorem dX1_addEnd_73 : decode cX1_addEnd 73 = .ok (.iadd, 1) := by decide +kernel
theorem dX1_addEnd_74 : decode cX1_addEnd 74 = .ok (.aload_n 0, 1) := by decide +kernel
theorem dX1_addEnd_75 : decode cX1_addEnd 75 = .ok (.getfield 50, 3) := by decide +kernel
theorem dX1_addEnd_78 : decode cX1_addEnd 78 = .ok (.iload_n 2, 1) := by decide +kernel
theorem dX1_addEnd_79 : decode cX1_addEnd 79 = .ok (.isub, 1) := by decide +kernel
theorem dX1_addEnd_8 : decode cX1_addEnd 8 = .ok (.istore 4, 2) := by decide +kernel
theorem dX1_addEnd_80 : decode cX1_addEnd 80 = .ok (.invokestatic 83, 3) := by decide +kernel
theorem dX1_addEnd_83 : decode cX1_addEnd 83 = .ok (.aload_n 0, 1) := by decide +kernel
theorem dX1_addEnd_84 : decode cX1_addEnd 84 = .ok (.getfield 13, 3) := by decide +kernel
theorem dX1_addEnd_87 : decode cX1_addEnd 87 = .ok (.iload_n 2, 1) := by decide +kernel
theorem dX1_addEnd_88 : decode cX1_addEnd 88 = .ok (.iload_n 1, 1) := by decide +kernel
theorem dX1_addEnd_89 : decode cX1_addEnd 89 = .ok (.iastore, 1) := by decide +kernel
theorem dX1_addEnd_90 : decode cX1_addEnd 90 = .ok (.aload_n 0, 1) := by decide +kernel
theorem dX1_addEnd_91 : decode cX1_addEnd 91 = .ok (.dup, 1) := by decide +kernel
theorem dX1_addEnd_92 : decode cX1_addEnd 92 = .ok (.getfield 50, 3) := by decide +kernel
theorem dX1_addEnd_95 : decode cX1_addEnd 95 = .ok (.iconst 1, 1) := by decide +kernel
theorem dX1_addEnd_96 : decode cX1_addEnd 96 = .ok (.iadd, 1) := by decide +kernel
theorem dX1_addEnd_97 : decode cX1_addEnd 97 = .ok (.putfield 50, 3) := by decide +kernel
theorem dX1_pathTo_0 : decode cX1_pathTo 0 = .ok (.iconst 0, 1) := by decide +kernel
theorem dX1_pathTo_1 : decode cX1_pathTo 1 = .ok (.istore_n 2, 1) := by decide +kernel
theorem dX1_pathTo_10 : decode cX1_pathTo 10 = .ok (.aload_n 0, 1) := by decide +kernel
theorem dX1_pathTo_100 : decode cX1_pathTo 100 = .ok (.iastore, 1) := by decide +kernel
theorem dX1_pathTo_101 : decode cX1_pathTo 101 = .ok (.iinc 4 1, 3) := by decide +kernel
theorem dX1_pathTo_104 : decode cX1_pathTo 104 = .ok (.goto (-51), 3) := by decide +kernel
theorem dX1_pathTo_107 : decode cX1_pathTo 107 = .ok (.iload_n 2, 1) := by decide +kernel
theorem dX1_pathTo_108 : decode cX1_pathTo 108 = .ok (.ireturn, 1) := by decide +kernel
theorem dX1_pathTo_11 : decode cX1_pathTo 11 = .ok (.getfield 38, 3) := by decide +kernel
theorem dX1_pathTo_14 : decode cX1_pathTo 14 = .ok (.iload_n 3, 1) := by decide +kernel
theorem dX1_pathTo_15 : decode cX1_pathTo 15 = .ok (.iaload, 1) := by decide +kernel
theorem dX1_pathTo_16 : decode cX1_pathTo 16 = .ok (.iconst (-1), 1) := by decide +kernel
theorem dX1_pathTo_17 : decode cX1_pathTo 17 = .ok (.if_icmp .eq 33, 3) := by decide +kernel
theorem dX1_pathTo_2 : decode cX1_pathTo 2 = .ok (.iload_n 1, 1) := by decide +kernel
theorem dX1_pathTo_20 : decode cX1_pathTo 20 = .ok (.aload_n 0, 1) := by decide +kernel
theorem dX1_pathTo_21 : decode cX1_pathTo 21 = .ok (.getfield 17, 3) := by decide +kernel
theorem dX1_pathTo_24 : decode cX1_pathTo 24 = .ok (.iload_n 2, 1) := by decide +kernel
theorem dX1_pathTo_25 : decode cX1_pathTo 25 = .ok (.aload_n 0, 1) := by decide +kernel
theorem dX1_pathTo_26 : decode cX1_pathTo 26 = .ok (.getfield 38, 3) := by decide +kernel
theorem dX1_pathTo_29 : decode cX1_pathTo 29 = .ok (.iload_n 3, 1) := by decide +kernel
theorem dX1_pathTo_3 : decode cX1_pathTo 3 = .ok (.istore_n 3, 1) := by decide +kernel
theorem dX1_pathTo_30 : decode cX1_pathTo 30 = .ok (.iaload, 1) := by decide +kernel
theorem dX1_pathTo_31 : decode cX1_pathTo 31 = .ok (.bipush 7, 2) := by decide +kernel
theorem dX1_pathTo_33 : decode cX1_pathTo 33 = .ok (.iand, 1) := by decide +kernel
theorem dX1_pathTo_34 : decode cX1_pathTo 34 = .ok (.iastore, 1) := by decide +kernel
theorem dX1_pathTo_35 : decode cX1_pathTo 35 = .ok (.aload_n 0, 1) := by decide +kernel
theorem dX1_pathTo_36 : decode cX1_pathTo 36 = .ok (.getfield 38, 3) := by decide +kernel
theorem dX1_pathTo_39 : decode cX1_pathTo 39 = .ok (.iload_n 3, 1) := by decide +kernel
theorem dX1_pathTo_4 : decode cX1_pathTo 4 = .ok (.iload_n 2, 1) := by decide +kernel
theorem dX1_pathTo_40 : decode cX1_pathTo 40 = .ok (.iaload, 1) := by decide +kernel
theorem dX1_pathTo_41 : decode cX1_pathTo 41 = .ok (.iconst 3, 1) := by decide +kernel
theorem dX1_pathTo_42 : decode cX1_pathTo 42 = .ok (.ishr, 1) := by decide +kernel
theorem dX1_pathTo_43 : decode cX1_pathTo 43 = .ok (.istore_n 3, 1) := by decide +kernel
theorem dX1_pathTo_44 : decode cX1_pathTo 44 = .ok (.iinc 2 1, 3) := by decide +kernel
theorem dX1_pathTo_47 : decode cX1_pathTo 47 = .ok (.goto (-43), 3) := by decide +kernel
theorem dX1_pathTo_5 : decode cX1_pathTo 5 = .ok (.bipush 38, 2) := by decide +kernel
theorem dX1_pathTo_50 : decode cX1_pathTo 50 = .ok (.iconst 0, 1) := by decide +kernel
theorem dX1_pathTo_51 : decode cX1_pathTo 51 = .ok (.istore 4, 2) := by decide +kernel
theorem dX1_pathTo_53 : decode cX1_pathTo 53 = .ok (.iload 4, 2) := by decide +kernel
theorem dX1_pathTo_55 : decode cX1_pathTo 55 = .ok (.iload_n 2, 1) := by decide +kernel
theorem dX1_pathTo_56 : decode cX1_pathTo 56 = .ok (.iconst 2, 1) := by decide +kernel
theorem dX1_pathTo_57 : decode cX1_pathTo 57 = .ok (.idiv, 1) := by decide +kernel
theorem dX1_pathTo_58 : decode cX1_pathTo 58 = .ok (.if_icmp .ge 49, 3) := by decide +kernel
theorem dX1_pathTo_61 : decode cX1_pathTo 61 = .ok (.aload_n 0, 1) := by decide +kernel
theorem dX1_pathTo_62 : decode cX1_pathTo 62 = .ok (.getfield 17, 3) := by decide +kernel
theorem dX1_pathTo_65 : decode cX1_pathTo 65 = .ok (.iload 4, 2) := by decide +kernel
theorem dX1_pathTo_67 : decode cX1_pathTo 67 = .ok (.iaload, 1) := by decide +kernel
theorem dX1_pathTo_68 : decode cX1_pathTo 68 = .ok (.istore 5, 2) := by decide +kernel
theorem dX1_pathTo_7 : decode cX1_pathTo 7 = .ok (.if_icmp .ge 43, 3) := by decide +kernel
theorem dX1_pathTo_70 : decode cX1_pathTo 70 = .ok (.aload_n 0, 1) := by decide +kernel
theorem dX1_pathTo_71 : decode cX1_pathTo 71 = .ok (.getfield 17, 3) := by decide +kernel
theorem dX1_pathTo_74 : decode cX1_pathTo 74 = .ok (.iload 4, 2) := by decide +kernel
theorem dX1_pathTo_76 : decode cX1_pathTo 76 = .ok (.aload_n 0, 1) := by decide +kernel
theorem dX1_pathTo_77 : decode cX1_pathTo 77 = .ok (.getfield 17, 3) := by decide +kernel
theorem dX1_pathTo_80 : decode cX1_pathTo 80 = .ok (.iload_n 2, 1) := by decide +kernel
theorem dX1_pathTo_81 : decode cX1_pathTo 81 = .ok (.iconst 1, 1) := by decide +kernel
theorem dX1_pathTo_82 : decode cX1_pathTo 82 = .ok (.isub, 1) := by decide +kernel
theorem dX1_pathTo_83 : decode cX1_pathTo 83 = .ok (.iload 4, 2) := by decide +kernel
theorem dX1_pathTo_85 : decode cX1_pathTo 85 = .ok (.isub, 1) := by decide +kernel
theorem dX1_pathTo_86 : decode cX1_pathTo 86 = .ok (.iaload, 1) := by decide +kernel
theorem dX1_pathTo_87 : decode cX1_pathTo 87 = .ok (.iastore, 1) := by decide +kernel
theorem dX1_pathTo_88 : decode cX1_pathTo 88 = .ok (.aload_n 0, 1) := by decide +kernel
theorem dX1_pathTo_89 : decode cX1_pathTo 89 = .ok (.getfield 17, 3) := by decide +kernel
theorem dX1_pathTo_92 : decode cX1_pathTo 92 = .ok (.iload_n 2, 1) := by decide +kernel
theorem dX1_pathTo_93 : decode cX1_pathTo 93 = .ok (.iconst 1, 1) := by decide +kernel
theorem dX1_pathTo_94 : decode cX1_pathTo 94 = .ok (.isub, 1) := by decide +kernel
theorem dX1_pathTo_95 : decode cX1_pathTo 95 = .ok (.iload 4, 2) := by decide +kernel
theorem dX1_pathTo_97 : decode cX1_pathTo 97 = .ok (.isub, 1) := by decide +kernel
theorem dX1_pathTo_98 : decode cX1_pathTo 98 = .ok (.iload 5, 2) := by decide +kernel
def wsP_c_addEnd : List Cond := .code yX1_addEnd cX1_addEnd 6 none :: (([.fieldLink RX1 50 "LitmusHall$Explorer" "endSize" "I", .fieldLink RX1 13 "LitmusHall$Explorer" "ends" "[I", .methodLink RX1 83 arraycopyName, .native arraycopyName, .static arraycopyName, .initialized "java/lang/System", .methodLink RX1 117 yX1_isBefore, .instanceMethod yX1_isBefore, .selects RX1 yX1_isBefore yX1_isBefore, .initialized RX1] ++ wsX10) ++ (wsP_c_isBefore ++ []))
theorem gW_c_addEnd : wsP_c_addEnd.all goodWord = true := by unfold wsP_c_addEnd; exact gw_mk (by decide +kernel) (gw_app gW_c_isBefore rfl)
set_option maxRecDepth 20000 in
theorem gP_c_addEnd__c_isBefore : GoodIn wsP_c_addEnd (wsV RX1 117 RX1 yX1_isBefore wsP_c_isBefore) := gw_in (pre := [.methodLink RX1 117 yX1_isBefore, .instanceMethod yX1_isBefore, .selects RX1 yX1_isBefore yX1_isBefore, .initialized RX1]) (by decide +kernel) (fun _ h => List.mem_cons_of_mem _ (List.mem_append_right _ (List.mem_append_left _ h))) gW_c_isBefore
set_option maxHeartbeats 4000000 in
set_option maxRecDepth 100000 in
theorem c_addEnd (l : Launch) (D : va_G) (cI cB cZ : ClassId) (h0 : Nat) (a2 : Nat) (a7 : Nat) (v0 : Value) (v3 : Value) (v4 : Value) (v5 : Value) (v8 : Value) (v9 : Value) (wd : Nat) (es : Nat) (sz : Nat) (rl : Nat) (rf : Nat → Int32) (ef : Nat → Int32) (n : Nat) (hw16 : 16 ≤ wd) (hw34 : wd ≤ 34) (hrl : rl ≤ 102000) (hes : es < 3000) (hsz : sz ≤ 3000) (hfit : sz * wd ≤ rl) (hn : n < sz) (hen : gEn ef es sz) : gMv l yX1_addEnd wsP_c_addEnd ({ frames := 1, cells := 0, slots := 0, locals := 40 }) D cI cB cZ [] [.ref h0, .int (nI n)] [(h0, .inr (1, [v0, .int (nI es), .ref a2, v3, v4, v5, .int (nI wd), .ref a7, v8, v9])), (a2, .inl (cI, 3000, .inl ef)), (a7, .inl (cI, rl, .inl rf))] (fun w9 => ∃ ef9 : Nat → Int32, (gEn ef9 (es + 1) sz) ∧ w9 = [(h0, .inr (1, [v0, .int (nI (es + 1)), .ref a2, v3, v4, v5, .int (nI wd), .ref a7, v8, v9])), (a2, .inl (cI, 3000, .inl ef9)), (a7, .inl (cI, rl, .inl rf))]) := by
  refine gMv.of (cc := cX1_addEnd) (maxL := 6) (ret := none) (by decide) rfl (Nat.le_of_ble_eq_true rfl) (fun p e s m below meth c A ls hx hb hr hlk hml hts hown hin hA hP hK hD hS hN hl => ?_)
  have hown : s.vm.findClass RX1 = some m.cls := hown
  have hl : lv_has ls 6 [(0, .ref h0), (1, .int (nI n))] := hl
  refine lv_iconst (v := 0) hx hb dX1_addEnd_0 (by decide) ?_
  refine lv_istore_n (lv' := [(2, .int 0), (0, .ref h0), (1, .int (nI n))]) hx hb dX1_addEnd_1 rfl hl (by decide) rfl (fun ls hl => ?_)
  refine lv_aload_n hx hb dX1_addEnd_2 rfl (lv_at hl 1 rfl) ?_
  refine va_get (D := D) (ci := 1) (v := .int (nI es)) (C := RX1) (T := TX1) (N := 10) hx hb hts (fun _ h => List.mem_cons_of_mem _ (List.mem_append_left _ (List.mem_append_right _ h))) hown hK hP 0 rfl rfl 1 (by decide) (hts (.fieldLink RX1 50 "LitmusHall$Explorer" "endSize" "I") (by decide +kernel)) (fun _ h9 => h9) rfl dX1_addEnd_3 ?_
  refine lv_istore_n (lv' := [(3, .int (nI es)), (2, .int 0), (0, .ref h0), (1, .int (nI n))]) hx hb dX1_addEnd_6 rfl hl (by decide) rfl (fun ls hl => ?_)
  refine lv_iconst (v := 0) hx hb dX1_addEnd_7 (by decide) ?_
  refine lv_istore (lv' := [(4, .int 0), (3, .int (nI es)), (2, .int 0), (0, .ref h0), (1, .int (nI n))]) hx hb dX1_addEnd_8 hl (by decide) rfl (fun ls hl => ?_)
  refine gy_loop0 (I := fun (x9 : Nat × Nat × Nat) H locs ls => (x9.1 ≤ 3000) ∧ (x9.2.1 ≤ x9.2.2) ∧ (x9.2.2 ≤ es) ∧ va_P D vwCl [(h0, .inr (1, [v0, .int (nI es), .ref a2, v3, v4, v5, .int (nI wd), .ref a7, v8, v9])), (a2, .inl (cI, 3000, .inl ef)), (a7, .inl (cI, rl, .inl rf))] H ∧ va_D A [(h0, .inr (1, [v0, .int (nI es), .ref a2, v3, v4, v5, .int (nI wd), .ref a7, v8, v9])), (a2, .inl (cI, 3000, .inl ef)), (a7, .inl (cI, rl, .inl rf))] ∧ va_S A s.heap H locs ∧ lv_has ls 6 [(4, .int (nI x9.1)), (3, .int (nI x9.2.2)), (2, .int (nI x9.2.1)), (0, .ref h0), (1, .int (nI n))]) (μ := fun (x9 : Nat × Nat × Nat) => 3000 - x9.1) (fun x9 H locs ls hI ih10 => ?_) (0, 0, es) ⟨(by show 0 ≤ 3000; exact Nat.le_of_ble_eq_true rfl), (by show 0 ≤ es; exact Nat.zero_le _), (by show es ≤ es; omega), hP, hD, hS, lv_sub hl [0, 1, 2, 3, 4] rfl⟩
  obtain ⟨i, lo, hi⟩ := x9
  obtain ⟨hi10_0, hi10_1, hi10_2, hP, hD, hS, hl⟩ := hI
  have hi10_0 : i ≤ 3000 := hi10_0
  have hi10_1 : lo ≤ hi := hi10_1
  have hi10_2 : hi ≤ es := hi10_2
  have hP : va_P D vwCl [(h0, .inr (1, [v0, .int (nI es), .ref a2, v3, v4, v5, .int (nI wd), .ref a7, v8, v9])), (a2, .inl (cI, 3000, .inl ef)), (a7, .inl (cI, rl, .inl rf))] H := hP
  have hD : va_D A [(h0, .inr (1, [v0, .int (nI es), .ref a2, v3, v4, v5, .int (nI wd), .ref a7, v8, v9])), (a2, .inl (cI, 3000, .inl ef)), (a7, .inl (cI, rl, .inl rf))] := hD
  have hS : va_S A s.heap H locs := hS
  have hl : lv_has ls 6 [(4, .int (nI i)), (3, .int (nI hi)), (2, .int (nI lo)), (0, .ref h0), (1, .int (nI n))] := hl
  refine lv_iload hx hb dX1_addEnd_10 (lv_at hl 0 rfl) ?_
  refine lv_sipush (v := 3000) hx hb dX1_addEnd_12 (by decide) ?_
  refine gy_ge (a := i) (b := 3000) (tgt := 62) hx hb (by omega) (by omega) dX1_addEnd_15 (by decide) (fun c_1 => ?_) (fun c_1 => ?_)
  · refine lv_aload_n hx hb dX1_addEnd_62 rfl (lv_at hl 3 rfl) ?_
    refine va_get (D := D) (ci := 1) (v := .ref a2) (C := RX1) (T := TX1) (N := 10) hx hb hts (fun _ h => List.mem_cons_of_mem _ (List.mem_append_left _ (List.mem_append_right _ h))) hown hK hP 0 rfl rfl 2 (by decide) (hts (.fieldLink RX1 13 "LitmusHall$Explorer" "ends" "[I") (by decide +kernel)) (fun _ h9 => h9) rfl dX1_addEnd_63 ?_
    refine lv_iload_n hx hb dX1_addEnd_66 rfl (lv_at hl 2 rfl) ?_
    refine lv_aload_n hx hb dX1_addEnd_67 rfl (lv_at hl 3 rfl) ?_
    refine va_get (D := D) (ci := 1) (v := .ref a2) (C := RX1) (T := TX1) (N := 10) hx hb hts (fun _ h => List.mem_cons_of_mem _ (List.mem_append_left _ (List.mem_append_right _ h))) hown hK hP 0 rfl rfl 2 (by decide) (hts (.fieldLink RX1 13 "LitmusHall$Explorer" "ends" "[I") (by decide +kernel)) (fun _ h9 => h9) rfl dX1_addEnd_68 ?_
    refine lv_iload_n hx hb dX1_addEnd_71 rfl (lv_at hl 2 rfl) ?_
    refine lv_iconst (v := 1) hx hb dX1_addEnd_72 (by decide) ?_
    refine lv_iadd hx hb dX1_addEnd_73 ?_
    refine gx_top (y := nI (lo + 1)) (nI_add lo 1) ?_
    refine lv_aload_n hx hb dX1_addEnd_74 rfl (lv_at hl 3 rfl) ?_
    refine va_get (D := D) (ci := 1) (v := .int (nI es)) (C := RX1) (T := TX1) (N := 10) hx hb hts (fun _ h => List.mem_cons_of_mem _ (List.mem_append_left _ (List.mem_append_right _ h))) hown hK hP 0 rfl rfl 1 (by decide) (hts (.fieldLink RX1 50 "LitmusHall$Explorer" "endSize" "I") (by decide +kernel)) (fun _ h9 => h9) rfl dX1_addEnd_75 ?_
    refine lv_iload_n hx hb dX1_addEnd_78 rfl (lv_at hl 2 rfl) ?_
    refine lv_isub hx hb dX1_addEnd_79 ?_
    refine gx_top (y := nI (es - lo)) (pk_sub (a := es) (b := lo) (by omega)) ?_
    refine gy_copyi (sp := lo) (dp := (lo + 1)) (n := (es - lo)) hx hb (hml.trans hl.1.symm) hown (hts (.methodLink RX1 83 arraycopyName) (by decide +kernel)) (hts (.native arraycopyName) (by decide +kernel)) (hts (.static arraycopyName) (by decide +kernel)) (hts (.initialized "java/lang/System") (by decide +kernel)) hK hP hD hS 1 1 rfl rfl (by omega) (by omega) (by omega) (by omega) (by omega) (Nat.le_of_ble_eq_true rfl) (Nat.le_of_ble_eq_true rfl) dX1_addEnd_80 (fun H locs hP hD hS => ?_)
    have hP : va_P D vwCl [(h0, .inr (1, [v0, .int (nI es), .ref a2, v3, v4, v5, .int (nI wd), .ref a7, v8, v9])), (a2, .inl (cI, 3000, .inl (va_cpy ef ef lo (lo + 1) (es - lo)))), (a7, .inl (cI, rl, .inl rf))] H := hP
    have hD : va_D A [(h0, .inr (1, [v0, .int (nI es), .ref a2, v3, v4, v5, .int (nI wd), .ref a7, v8, v9])), (a2, .inl (cI, 3000, .inl (va_cpy ef ef lo (lo + 1) (es - lo)))), (a7, .inl (cI, rl, .inl rf))] := hD
    refine lv_aload_n hx hb dX1_addEnd_83 rfl (lv_at hl 3 rfl) ?_
    refine va_get (D := D) (ci := 1) (v := .ref a2) (C := RX1) (T := TX1) (N := 10) hx hb hts (fun _ h => List.mem_cons_of_mem _ (List.mem_append_left _ (List.mem_append_right _ h))) hown hK hP 0 rfl rfl 2 (by decide) (hts (.fieldLink RX1 13 "LitmusHall$Explorer" "ends" "[I") (by decide +kernel)) (fun _ h9 => h9) rfl dX1_addEnd_84 ?_
    refine lv_iload_n hx hb dX1_addEnd_87 rfl (lv_at hl 2 rfl) ?_
    refine lv_iload_n hx hb dX1_addEnd_88 rfl (lv_at hl 4 rfl) ?_
    refine gy_ist (i := lo) hx hb hK hP hD hS 1 rfl (by omega) (by omega) dX1_addEnd_89 (fun H locs hP hD hS => ?_)
    have hP : va_P D vwCl [(h0, .inr (1, [v0, .int (nI es), .ref a2, v3, v4, v5, .int (nI wd), .ref a7, v8, v9])), (a2, .inl (cI, 3000, .inl (upd (va_cpy ef ef lo (lo + 1) (es - lo)) lo (nI n)))), (a7, .inl (cI, rl, .inl rf))] H := hP
    have hD : va_D A [(h0, .inr (1, [v0, .int (nI es), .ref a2, v3, v4, v5, .int (nI wd), .ref a7, v8, v9])), (a2, .inl (cI, 3000, .inl (upd (va_cpy ef ef lo (lo + 1) (es - lo)) lo (nI n)))), (a7, .inl (cI, rl, .inl rf))] := hD
    refine lv_aload_n hx hb dX1_addEnd_90 rfl (lv_at hl 3 rfl) ?_
    refine lv_dup hx hb dX1_addEnd_91 rfl ?_
    refine va_get (D := D) (ci := 1) (v := .int (nI es)) (C := RX1) (T := TX1) (N := 10) hx hb hts (fun _ h => List.mem_cons_of_mem _ (List.mem_append_left _ (List.mem_append_right _ h))) hown hK hP 0 rfl rfl 1 (by decide) (hts (.fieldLink RX1 50 "LitmusHall$Explorer" "endSize" "I") (by decide +kernel)) (fun _ h9 => h9) rfl dX1_addEnd_92 ?_
    refine lv_iconst (v := 1) hx hb dX1_addEnd_95 (by decide) ?_
    refine lv_iadd hx hb dX1_addEnd_96 ?_
    refine gx_top (y := nI (es + 1)) (nI_add es 1) ?_
    refine va_put (D := D) (ci := 1) (v := .int (nI (es + 1))) (ty := .int) (C := RX1) (T := TX1) (N := 10) hx hb hts (fun _ h => List.mem_cons_of_mem _ (List.mem_append_left _ (List.mem_append_right _ h))) tyX1 tyX1_ok nmX1 hown hK hP hD hS 0 rfl rfl 1 (by decide) (hts (.fieldLink RX1 50 "LitmusHall$Explorer" "endSize" "I") (by decide +kernel)) (fun _ h9 => h9) rfl (by decide +kernel) rfl rfl (Nat.le_of_ble_eq_true rfl) dX1_addEnd_97 (fun H locs hP hD hS => ?_)
    have hP : va_P D vwCl [(h0, .inr (1, [v0, .int (nI (es + 1)), .ref a2, v3, v4, v5, .int (nI wd), .ref a7, v8, v9])), (a2, .inl (cI, 3000, .inl (upd (va_cpy ef ef lo (lo + 1) (es - lo)) lo (nI n)))), (a7, .inl (cI, rl, .inl rf))] H := hP
    have hD : va_D A [(h0, .inr (1, [v0, .int (nI (es + 1)), .ref a2, v3, v4, v5, .int (nI wd), .ref a7, v8, v9])), (a2, .inl (cI, 3000, .inl (upd (va_cpy ef ef lo (lo + 1) (es - lo)) lo (nI n)))), (a7, .inl (cI, rl, .inl rf))] := hD
    exact gx_vret (w' := [(h0, .inr (1, [v0, .int (nI (es + 1)), .ref a2, v3, v4, v5, .int (nI wd), .ref a7, v8, v9])), (a2, .inl (cI, 3000, .inl (upd (va_cpy ef ef lo (lo + 1) (es - lo)) lo (nI n)))), (a7, .inl (cI, rl, .inl rf))]) hx hb hr hlk hK hP hD hS (Nat.le_of_ble_eq_true rfl) (Nat.le_of_ble_eq_true rfl) dX1_addEnd_100 ⟨(upd (va_cpy ef ef lo (lo + 1) (es - lo)) lo (nI n)), (gEn_put hen (by omega) hn), rfl⟩
  · refine lv_iload_n hx hb dX1_addEnd_18 rfl (lv_at hl 2 rfl) ?_
    refine lv_iload_n hx hb dX1_addEnd_19 rfl (lv_at hl 1 rfl) ?_
    refine gy_ge (a := lo) (b := hi) (tgt := 62) hx hb (by omega) (by omega) dX1_addEnd_20 (by decide) (fun c_2 => ?_) (fun c_2 => ?_)
    · refine lv_aload_n hx hb dX1_addEnd_62 rfl (lv_at hl 3 rfl) ?_
      refine va_get (D := D) (ci := 1) (v := .ref a2) (C := RX1) (T := TX1) (N := 10) hx hb hts (fun _ h => List.mem_cons_of_mem _ (List.mem_append_left _ (List.mem_append_right _ h))) hown hK hP 0 rfl rfl 2 (by decide) (hts (.fieldLink RX1 13 "LitmusHall$Explorer" "ends" "[I") (by decide +kernel)) (fun _ h9 => h9) rfl dX1_addEnd_63 ?_
      refine lv_iload_n hx hb dX1_addEnd_66 rfl (lv_at hl 2 rfl) ?_
      refine lv_aload_n hx hb dX1_addEnd_67 rfl (lv_at hl 3 rfl) ?_
      refine va_get (D := D) (ci := 1) (v := .ref a2) (C := RX1) (T := TX1) (N := 10) hx hb hts (fun _ h => List.mem_cons_of_mem _ (List.mem_append_left _ (List.mem_append_right _ h))) hown hK hP 0 rfl rfl 2 (by decide) (hts (.fieldLink RX1 13 "LitmusHall$Explorer" "ends" "[I") (by decide +kernel)) (fun _ h9 => h9) rfl dX1_addEnd_68 ?_
      refine lv_iload_n hx hb dX1_addEnd_71 rfl (lv_at hl 2 rfl) ?_
      refine lv_iconst (v := 1) hx hb dX1_addEnd_72 (by decide) ?_
      refine lv_iadd hx hb dX1_addEnd_73 ?_
      refine gx_top (y := nI (lo + 1)) (nI_add lo 1) ?_
      refine lv_aload_n hx hb dX1_addEnd_74 rfl (lv_at hl 3 rfl) ?_
      refine va_get (D := D) (ci := 1) (v := .int (nI es)) (C := RX1) (T := TX1) (N := 10) hx hb hts (fun _ h => List.mem_cons_of_mem _ (List.mem_append_left _ (List.mem_append_right _ h))) hown hK hP 0 rfl rfl 1 (by decide) (hts (.fieldLink RX1 50 "LitmusHall$Explorer" "endSize" "I") (by decide +kernel)) (fun _ h9 => h9) rfl dX1_addEnd_75 ?_
      refine lv_iload_n hx hb dX1_addEnd_78 rfl (lv_at hl 2 rfl) ?_
      refine lv_isub hx hb dX1_addEnd_79 ?_
      refine gx_top (y := nI (es - lo)) (pk_sub (a := es) (b := lo) (by omega)) ?_
      refine gy_copyi (sp := lo) (dp := (lo + 1)) (n := (es - lo)) hx hb (hml.trans hl.1.symm) hown (hts (.methodLink RX1 83 arraycopyName) (by decide +kernel)) (hts (.native arraycopyName) (by decide +kernel)) (hts (.static arraycopyName) (by decide +kernel)) (hts (.initialized "java/lang/System") (by decide +kernel)) hK hP hD hS 1 1 rfl rfl (by omega) (by omega) (by omega) (by omega) (by omega) (Nat.le_of_ble_eq_true rfl) (Nat.le_of_ble_eq_true rfl) dX1_addEnd_80 (fun H locs hP hD hS => ?_)
      have hP : va_P D vwCl [(h0, .inr (1, [v0, .int (nI es), .ref a2, v3, v4, v5, .int (nI wd), .ref a7, v8, v9])), (a2, .inl (cI, 3000, .inl (va_cpy ef ef lo (lo + 1) (es - lo)))), (a7, .inl (cI, rl, .inl rf))] H := hP
      have hD : va_D A [(h0, .inr (1, [v0, .int (nI es), .ref a2, v3, v4, v5, .int (nI wd), .ref a7, v8, v9])), (a2, .inl (cI, 3000, .inl (va_cpy ef ef lo (lo + 1) (es - lo)))), (a7, .inl (cI, rl, .inl rf))] := hD
      refine lv_aload_n hx hb dX1_addEnd_83 rfl (lv_at hl 3 rfl) ?_
      refine va_get (D := D) (ci := 1) (v := .ref a2) (C := RX1) (T := TX1) (N := 10) hx hb hts (fun _ h => List.mem_cons_of_mem _ (List.mem_append_left _ (List.mem_append_right _ h))) hown hK hP 0 rfl rfl 2 (by decide) (hts (.fieldLink RX1 13 "LitmusHall$Explorer" "ends" "[I") (by decide +kernel)) (fun _ h9 => h9) rfl dX1_addEnd_84 ?_
      refine lv_iload_n hx hb dX1_addEnd_87 rfl (lv_at hl 2 rfl) ?_
      refine lv_iload_n hx hb dX1_addEnd_88 rfl (lv_at hl 4 rfl) ?_
      refine gy_ist (i := lo) hx hb hK hP hD hS 1 rfl (by omega) (by omega) dX1_addEnd_89 (fun H locs hP hD hS => ?_)
      have hP : va_P D vwCl [(h0, .inr (1, [v0, .int (nI es), .ref a2, v3, v4, v5, .int (nI wd), .ref a7, v8, v9])), (a2, .inl (cI, 3000, .inl (upd (va_cpy ef ef lo (lo + 1) (es - lo)) lo (nI n)))), (a7, .inl (cI, rl, .inl rf))] H := hP
      have hD : va_D A [(h0, .inr (1, [v0, .int (nI es), .ref a2, v3, v4, v5, .int (nI wd), .ref a7, v8, v9])), (a2, .inl (cI, 3000, .inl (upd (va_cpy ef ef lo (lo + 1) (es - lo)) lo (nI n)))), (a7, .inl (cI, rl, .inl rf))] := hD
      refine lv_aload_n hx hb dX1_addEnd_90 rfl (lv_at hl 3 rfl) ?_
      refine lv_dup hx hb dX1_addEnd_91 rfl ?_
      refine va_get (D := D) (ci := 1) (v := .int (nI es)) (C := RX1) (T := TX1) (N := 10) hx hb hts (fun _ h => List.mem_cons_of_mem _ (List.mem_append_left _ (List.mem_append_right _ h))) hown hK hP 0 rfl rfl 1 (by decide) (hts (.fieldLink RX1 50 "LitmusHall$Explorer" "endSize" "I") (by decide +kernel)) (fun _ h9 => h9) rfl dX1_addEnd_92 ?_
      refine lv_iconst (v := 1) hx hb dX1_addEnd_95 (by decide) ?_
      refine lv_iadd hx hb dX1_addEnd_96 ?_
      refine gx_top (y := nI (es + 1)) (nI_add es 1) ?_
      refine va_put (D := D) (ci := 1) (v := .int (nI (es + 1))) (ty := .int) (C := RX1) (T := TX1) (N := 10) hx hb hts (fun _ h => List.mem_cons_of_mem _ (List.mem_append_left _ (List.mem_append_right _ h))) tyX1 tyX1_ok nmX1 hown hK hP hD hS 0 rfl rfl 1 (by decide) (hts (.fieldLink RX1 50 "LitmusHall$Explorer" "endSize" "I") (by decide +kernel)) (fun _ h9 => h9) rfl (by decide +kernel) rfl rfl (Nat.le_of_ble_eq_true rfl) dX1_addEnd_97 (fun H locs hP hD hS => ?_)
      have hP : va_P D vwCl [(h0, .inr (1, [v0, .int (nI (es + 1)), .ref a2, v3, v4, v5, .int (nI wd), .ref a7, v8, v9])), (a2, .inl (cI, 3000, .inl (upd (va_cpy ef ef lo (lo + 1) (es - lo)) lo (nI n)))), (a7, .inl (cI, rl, .inl rf))] H := hP
      have hD : va_D A [(h0, .inr (1, [v0, .int (nI (es + 1)), .ref a2, v3, v4, v5, .int (nI wd), .ref a7, v8, v9])), (a2, .inl (cI, 3000, .inl (upd (va_cpy ef ef lo (lo + 1) (es - lo)) lo (nI n)))), (a7, .inl (cI, rl, .inl rf))] := hD
      exact gx_vret (w' := [(h0, .inr (1, [v0, .int (nI (es + 1)), .ref a2, v3, v4, v5, .int (nI wd), .ref a7, v8, v9])), (a2, .inl (cI, 3000, .inl (upd (va_cpy ef ef lo (lo + 1) (es - lo)) lo (nI n)))), (a7, .inl (cI, rl, .inl rf))]) hx hb hr hlk hK hP hD hS (Nat.le_of_ble_eq_true rfl) (Nat.le_of_ble_eq_true rfl) dX1_addEnd_100 ⟨(upd (va_cpy ef ef lo (lo + 1) (es - lo)) lo (nI n)), (gEn_put hen (by omega) hn), rfl⟩
    · refine lv_iload_n hx hb dX1_addEnd_23 rfl (lv_at hl 2 rfl) ?_
      refine lv_iload_n hx hb dX1_addEnd_24 rfl (lv_at hl 1 rfl) ?_
      refine lv_iadd hx hb dX1_addEnd_25 ?_
      refine gx_top (y := nI (lo + hi)) (nI_add lo hi) ?_
      refine lv_iconst (v := 2) hx hb dX1_addEnd_26 (by decide) ?_
      refine lv_idiv hx hb dX1_addEnd_27 (by decide) ?_
      refine gx_top (y := nI ((lo + hi) / 2)) (gy_div (a := lo + hi) (b := 2) (by omega) (by decide)) ?_
      refine lv_istore (lv' := [(5, .int (nI ((lo + hi) / 2))), (4, .int (nI i)), (3, .int (nI hi)), (2, .int (nI lo)), (0, .ref h0), (1, .int (nI n))]) hx hb dX1_addEnd_28 hl (by decide) rfl (fun ls hl => ?_)
      refine lv_aload_n hx hb dX1_addEnd_30 rfl (lv_at hl 4 rfl) ?_
      refine lv_aload_n hx hb dX1_addEnd_31 rfl (lv_at hl 4 rfl) ?_
      refine va_get (D := D) (ci := 1) (v := .ref a2) (C := RX1) (T := TX1) (N := 10) hx hb hts (fun _ h => List.mem_cons_of_mem _ (List.mem_append_left _ (List.mem_append_right _ h))) hown hK hP 0 rfl rfl 2 (by decide) (hts (.fieldLink RX1 13 "LitmusHall$Explorer" "ends" "[I") (by decide +kernel)) (fun _ h9 => h9) rfl dX1_addEnd_32 ?_
      refine lv_iload hx hb dX1_addEnd_35 (lv_at hl 0 rfl) ?_
      obtain ⟨q, hq1, hq2⟩ := hen ((lo + hi) / 2) (by omega)
      have hrow1 := gy_row (n := q) (sz := sz) (wd := wd) hq1
      have hrow2 := gy_row (n := n) (sz := sz) (wd := wd) hn
      refine gy_ild (i := ((lo + hi) / 2)) hx hb hK hP 1 rfl (by omega) (by omega) dX1_addEnd_37 ?_
      refine gx_top (y := nI q) hq2 ?_
      refine lv_iload_n hx hb dX1_addEnd_38 rfl (lv_at hl 5 rfl) ?_
      refine gx_goi (wc := [(h0, .inr (1, [v0, .int (nI es), .ref a2, v3, v4, v5, .int (nI wd), .ref a7, v8, v9])), (a7, .inl (cI, rl, .inl rf))]) (wr := [(a2, .inl (cI, 3000, .inl ef))]) (va_runV (As := [.int (nI q), .int (nI n)]) (rest := []) ⟨hx, hb, hml, hown, hts⟩ (c_isBefore l D cI cB cZ h0 a7 (v0) (.int (nI es)) (.ref a2) (v3) (v4) (v5) (v8) (v9) wd rl rf q n (by omega) (by omega) (by omega) (by omega) (by omega) _) (cwV 2 hts gP_c_addEnd__c_isBefore rfl rfl rfl (by decide +kernel) ⟨Nat.le_of_ble_eq_true rfl, Nat.le_of_ble_eq_true rfl⟩) (gx_preV (ci := 1) (q0 := 0) hK gN.nil hP hD [0, 2] rfl rfl rfl rfl) rfl rfl hl.1 rfl (lv_room (Nat.le_of_ble_eq_true rfl)) dX1_addEnd_39 ⟨Nat.le_of_ble_eq_true rfl, Nat.le_of_ble_eq_true rfl⟩) hP hD hS hA [0, 2] [1] rfl rfl rfl (by decide) (fun r1 w1 H locs hp hP hD hS => ?_)
      obtain ⟨e_3, hq_4, h9, rfl⟩ := hp
      have h9 := h9.symm
      subst h9
      have hq_4 : e_3 = 0 ∨ e_3 = 1 := hq_4
      refine lv_if_eq (tgt := 53) hx hb dX1_addEnd_42 (by decide) (fun c_5 => ?_) (fun c_5 => ?_)
      · refine lv_iload hx hb dX1_addEnd_53 (lv_at hl 0 rfl) ?_
        refine lv_istore_n (lv' := [(3, .int (nI ((lo + hi) / 2))), (5, .int (nI ((lo + hi) / 2))), (4, .int (nI i)), (2, .int (nI lo)), (0, .ref h0), (1, .int (nI n))]) hx hb dX1_addEnd_55 rfl hl (by decide) rfl (fun ls hl => ?_)
        refine lv_iinc (v := nI (i + 1)) (lv' := [(4, .int (nI (i + 1))), (3, .int (nI ((lo + hi) / 2))), (5, .int (nI ((lo + hi) / 2))), (2, .int (nI lo)), (0, .ref h0), (1, .int (nI n))]) hx hb dX1_addEnd_56 hl (k := 2) rfl (nI_add i 1) (by decide) rfl (fun ls hl => ?_)
        refine lv_goto (tgt := 10) hx hb dX1_addEnd_59 (by decide) ?_
        have hP := hP.sub (ws' := [(h0, .inr (1, [v0, .int (nI es), .ref a2, v3, v4, v5, .int (nI wd), .ref a7, v8, v9])), (a2, .inl (cI, 3000, .inl ef)), (a7, .inl (cI, rl, .inl rf))]) [1, 0, 2] rfl
        have hD := hD.sub (ws' := [(h0, .inr (1, [v0, .int (nI es), .ref a2, v3, v4, v5, .int (nI wd), .ref a7, v8, v9])), (a2, .inl (cI, 3000, .inl ef)), (a7, .inl (cI, rl, .inl rf))]) [1, 0, 2] (by decide) rfl
        exact ih10 ((i + 1), lo, ((lo + hi) / 2)) H locs ls ⟨(by show (i + 1) ≤ 3000; omega), (by show lo ≤ ((lo + hi) / 2); omega), (by show ((lo + hi) / 2) ≤ es; omega), hP, hD, hS, lv_sub hl [0, 1, 3, 4, 5] rfl⟩ (by show 3000 - (i + 1) < 3000 - i; omega)
      · refine lv_iload hx hb dX1_addEnd_45 (lv_at hl 0 rfl) ?_
        refine lv_iconst (v := 1) hx hb dX1_addEnd_47 (by decide) ?_
        refine lv_iadd hx hb dX1_addEnd_48 ?_
        refine gx_top (y := nI (((lo + hi) / 2) + 1)) (nI_add ((lo + hi) / 2) 1) ?_
        refine lv_istore_n (lv' := [(2, .int (nI (((lo + hi) / 2) + 1))), (5, .int (nI ((lo + hi) / 2))), (4, .int (nI i)), (3, .int (nI hi)), (0, .ref h0), (1, .int (nI n))]) hx hb dX1_addEnd_49 rfl hl (by decide) rfl (fun ls hl => ?_)
        refine lv_goto (tgt := 56) hx hb dX1_addEnd_50 (by decide) ?_
        refine lv_iinc (v := nI (i + 1)) (lv' := [(4, .int (nI (i + 1))), (2, .int (nI (((lo + hi) / 2) + 1))), (5, .int (nI ((lo + hi) / 2))), (3, .int (nI hi)), (0, .ref h0), (1, .int (nI n))]) hx hb dX1_addEnd_56 hl (k := 2) rfl (nI_add i 1) (by decide) rfl (fun ls hl => ?_)
        refine lv_goto (tgt := 10) hx hb dX1_addEnd_59 (by decide) ?_
        have hP := hP.sub (ws' := [(h0, .inr (1, [v0, .int (nI es), .ref a2, v3, v4, v5, .int (nI wd), .ref a7, v8, v9])), (a2, .inl (cI, 3000, .inl ef)), (a7, .inl (cI, rl, .inl rf))]) [1, 0, 2] rfl
        have hD := hD.sub (ws' := [(h0, .inr (1, [v0, .int (nI es), .ref a2, v3, v4, v5, .int (nI wd), .ref a7, v8, v9])), (a2, .inl (cI, 3000, .inl ef)), (a7, .inl (cI, rl, .inl rf))]) [1, 0, 2] (by decide) rfl
        exact ih10 ((i + 1), (((lo + hi) / 2) + 1), hi) H locs ls ⟨(by show (i + 1) ≤ 3000; omega), (by show (((lo + hi) / 2) + 1) ≤ hi; omega), (by show hi ≤ es; omega), hP, hD, hS, lv_sub hl [0, 3, 1, 4, 5] rfl⟩ (by show 3000 - (i + 1) < 3000 - i; omega)
def wsP_c_pathTo : List Cond := .code yX1_pathTo cX1_pathTo 6 (some .int) :: (([.fieldLink RX1 17 "LitmusHall$Explorer" "path" "[I", .fieldLink RX1 38 "LitmusHall$Explorer" "came" "[I"] ++ wsX10) ++ [])
theorem gW_c_pathTo : wsP_c_pathTo.all goodWord = true := by unfold wsP_c_pathTo; exact gw_mk (by decide +kernel) rfl
set_option maxHeartbeats 4000000 in
set_option maxRecDepth 100000 in
theorem c_pathTo (l : Launch) (D : va_G) (cI cB cZ : ClassId) (h0 : Nat) (a3 : Nat) (a9 : Nat) (v0 : Value) (v1 : Value) (v2 : Value) (v4 : Value) (v5 : Value) (v6 : Value) (v7 : Value) (v8 : Value) (sz : Nat) (pf : Nat → Int32) (cm : Nat → Int32) (n : Nat) (hsz : sz ≤ 3000) (hn : n < sz) (hcm : gCm cm sz) : gMi l yX1_pathTo wsP_c_pathTo ({ frames := 0, cells := 0, slots := 0, locals := 0 }) D cI cB cZ [] [.ref h0, .int (nI n)] [(h0, .inr (1, [v0, v1, v2, .ref a3, v4, v5, v6, v7, v8, .ref a9])), (a3, .inl (cI, 38, .inl pf)), (a9, .inl (cI, 3000, .inl cm))] (fun r9 w9 => ∃ t : Nat, ∃ pf9 : Nat → Int32, (t ≤ 38) ∧ r9 = (nI t) ∧ w9 = [(h0, .inr (1, [v0, v1, v2, .ref a3, v4, v5, v6, v7, v8, .ref a9])), (a3, .inl (cI, 38, .inl pf9)), (a9, .inl (cI, 3000, .inl cm))]) := by
  refine gMi.of (cc := cX1_pathTo) (maxL := 6) (ret := (some .int)) (by decide) rfl (Nat.le_of_ble_eq_true rfl) (fun p e s m below meth c A ls hx hb hr hlk hml hts hown hin hA hP hK hD hS hN hl => ?_)
  have hown : s.vm.findClass RX1 = some m.cls := hown
  have hl : lv_has ls 6 [(0, .ref h0), (1, .int (nI n))] := hl
  refine lv_iconst (v := 0) hx hb dX1_pathTo_0 (by decide) ?_
  refine lv_istore_n (lv' := [(2, .int 0), (0, .ref h0), (1, .int (nI n))]) hx hb dX1_pathTo_1 rfl hl (by decide) rfl (fun ls hl => ?_)
  refine lv_iload_n hx hb dX1_pathTo_2 rfl (lv_at hl 2 rfl) ?_
  refine lv_istore_n (lv' := [(3, .int (nI n)), (2, .int 0), (0, .ref h0), (1, .int (nI n))]) hx hb dX1_pathTo_3 rfl hl (by decide) rfl (fun ls hl => ?_)
  refine gy_loop0 (I := fun (x9 : Nat × Nat × (Nat → Int32)) H locs ls => (x9.1 ≤ 38) ∧ (x9.2.1 < sz) ∧ va_P D vwCl [(h0, .inr (1, [v0, v1, v2, .ref a3, v4, v5, v6, v7, v8, .ref a9])), (a3, .inl (cI, 38, .inl x9.2.2)), (a9, .inl (cI, 3000, .inl cm))] H ∧ va_D A [(h0, .inr (1, [v0, v1, v2, .ref a3, v4, v5, v6, v7, v8, .ref a9])), (a3, .inl (cI, 38, .inl x9.2.2)), (a9, .inl (cI, 3000, .inl cm))] ∧ va_S A s.heap H locs ∧ lv_has ls 6 [(3, .int (nI x9.2.1)), (2, .int (nI x9.1)), (0, .ref h0), (1, .int (nI n))]) (μ := fun (x9 : Nat × Nat × (Nat → Int32)) => 38 - x9.1) (fun x9 H locs ls hI ih4 => ?_) (0, n, pf) ⟨(by show 0 ≤ 38; exact Nat.le_of_ble_eq_true rfl), (by show n < sz; omega), hP, hD, hS, lv_sub hl [0, 1, 2, 3] rfl⟩
  obtain ⟨t, h, pf⟩ := x9
  obtain ⟨hi4_0, hi4_1, hP, hD, hS, hl⟩ := hI
  have hi4_0 : t ≤ 38 := hi4_0
  have hi4_1 : h < sz := hi4_1
  have hP : va_P D vwCl [(h0, .inr (1, [v0, v1, v2, .ref a3, v4, v5, v6, v7, v8, .ref a9])), (a3, .inl (cI, 38, .inl pf)), (a9, .inl (cI, 3000, .inl cm))] H := hP
  have hD : va_D A [(h0, .inr (1, [v0, v1, v2, .ref a3, v4, v5, v6, v7, v8, .ref a9])), (a3, .inl (cI, 38, .inl pf)), (a9, .inl (cI, 3000, .inl cm))] := hD
  have hS : va_S A s.heap H locs := hS
  have hl : lv_has ls 6 [(3, .int (nI h)), (2, .int (nI t)), (0, .ref h0), (1, .int (nI n))] := hl
  refine lv_iload_n hx hb dX1_pathTo_4 rfl (lv_at hl 1 rfl) ?_
  refine lv_bipush (v := 38) hx hb dX1_pathTo_5 (by decide) ?_
  refine gy_ge (a := t) (b := 38) (tgt := 50) hx hb (by omega) (by omega) dX1_pathTo_7 (by decide) (fun c_1 => ?_) (fun c_1 => ?_)
  · refine lv_iconst (v := 0) hx hb dX1_pathTo_50 (by decide) ?_
    refine lv_istore (lv' := [(4, .int 0), (3, .int (nI h)), (2, .int (nI t)), (0, .ref h0), (1, .int (nI n))]) hx hb dX1_pathTo_51 hl (by decide) rfl (fun ls hl => ?_)
    refine gy_loop0 (I := fun (x9 : Nat × (Nat → Int32)) H locs ls => (x9.1 ≤ t / 2) ∧ va_P D vwCl [(h0, .inr (1, [v0, v1, v2, .ref a3, v4, v5, v6, v7, v8, .ref a9])), (a3, .inl (cI, 38, .inl x9.2)), (a9, .inl (cI, 3000, .inl cm))] H ∧ va_D A [(h0, .inr (1, [v0, v1, v2, .ref a3, v4, v5, v6, v7, v8, .ref a9])), (a3, .inl (cI, 38, .inl x9.2)), (a9, .inl (cI, 3000, .inl cm))] ∧ va_S A s.heap H locs ∧ lv_has ls 6 [(4, .int (nI x9.1)), (3, .int (nI h)), (2, .int (nI t)), (0, .ref h0), (1, .int (nI n))]) (μ := fun (x9 : Nat × (Nat → Int32)) => t - x9.1) (fun x9 H locs ls hI ih53 => ?_) (0, pf) ⟨(by show 0 ≤ t / 2; exact Nat.zero_le _), hP, hD, hS, lv_sub hl [0, 1, 2, 3, 4] rfl⟩
    obtain ⟨i, pf⟩ := x9
    obtain ⟨hi53_0, hP, hD, hS, hl⟩ := hI
    have hi53_0 : i ≤ t / 2 := hi53_0
    have hP : va_P D vwCl [(h0, .inr (1, [v0, v1, v2, .ref a3, v4, v5, v6, v7, v8, .ref a9])), (a3, .inl (cI, 38, .inl pf)), (a9, .inl (cI, 3000, .inl cm))] H := hP
    have hD : va_D A [(h0, .inr (1, [v0, v1, v2, .ref a3, v4, v5, v6, v7, v8, .ref a9])), (a3, .inl (cI, 38, .inl pf)), (a9, .inl (cI, 3000, .inl cm))] := hD
    have hS : va_S A s.heap H locs := hS
    have hl : lv_has ls 6 [(4, .int (nI i)), (3, .int (nI h)), (2, .int (nI t)), (0, .ref h0), (1, .int (nI n))] := hl
    refine lv_iload hx hb dX1_pathTo_53 (lv_at hl 0 rfl) ?_
    refine lv_iload_n hx hb dX1_pathTo_55 rfl (lv_at hl 2 rfl) ?_
    refine lv_iconst (v := 2) hx hb dX1_pathTo_56 (by decide) ?_
    refine lv_idiv hx hb dX1_pathTo_57 (by decide) ?_
    refine gx_top (y := nI ((t) / 2)) (gy_div (a := t) (b := 2) (by omega) (by decide)) ?_
    refine gy_ge (a := i) (b := ((t) / 2)) (tgt := 107) hx hb (by omega) (by omega) dX1_pathTo_58 (by decide) (fun c_2 => ?_) (fun c_2 => ?_)
    · refine lv_iload_n hx hb dX1_pathTo_107 rfl (lv_at hl 2 rfl) ?_
      exact gx_iret (w' := [(h0, .inr (1, [v0, v1, v2, .ref a3, v4, v5, v6, v7, v8, .ref a9])), (a3, .inl (cI, 38, .inl pf)), (a9, .inl (cI, 3000, .inl cm))]) hx hb hr hlk hK hP hD hS (Nat.le_of_ble_eq_true rfl) (Nat.le_of_ble_eq_true rfl) dX1_pathTo_108 ⟨t, pf, (by omega), rfl, rfl⟩
    · refine lv_aload_n hx hb dX1_pathTo_61 rfl (lv_at hl 3 rfl) ?_
      refine va_get (D := D) (ci := 1) (v := .ref a3) (C := RX1) (T := TX1) (N := 10) hx hb hts (fun _ h => List.mem_cons_of_mem _ (List.mem_append_left _ (List.mem_append_right _ h))) hown hK hP 0 rfl rfl 3 (by decide) (hts (.fieldLink RX1 17 "LitmusHall$Explorer" "path" "[I") (by decide +kernel)) (fun _ h9 => h9) rfl dX1_pathTo_62 ?_
      refine lv_iload hx hb dX1_pathTo_65 (lv_at hl 0 rfl) ?_
      refine gy_ild (i := i) hx hb hK hP 1 rfl (by omega) (by omega) dX1_pathTo_67 ?_
      refine gx_gen (fun z_3 => ?_)
      refine lv_istore (lv' := [(5, .int z_3), (4, .int (nI i)), (3, .int (nI h)), (2, .int (nI t)), (0, .ref h0), (1, .int (nI n))]) hx hb dX1_pathTo_68 hl (by decide) rfl (fun ls hl => ?_)
      refine lv_aload_n hx hb dX1_pathTo_70 rfl (lv_at hl 4 rfl) ?_
      refine va_get (D := D) (ci := 1) (v := .ref a3) (C := RX1) (T := TX1) (N := 10) hx hb hts (fun _ h => List.mem_cons_of_mem _ (List.mem_append_left _ (List.mem_append_right _ h))) hown hK hP 0 rfl rfl 3 (by decide) (hts (.fieldLink RX1 17 "LitmusHall$Explorer" "path" "[I") (by decide +kernel)) (fun _ h9 => h9) rfl dX1_pathTo_71 ?_
      refine lv_iload hx hb dX1_pathTo_74 (lv_at hl 1 rfl) ?_
      refine lv_aload_n hx hb dX1_pathTo_76 rfl (lv_at hl 4 rfl) ?_
      refine va_get (D := D) (ci := 1) (v := .ref a3) (C := RX1) (T := TX1) (N := 10) hx hb hts (fun _ h => List.mem_cons_of_mem _ (List.mem_append_left _ (List.mem_append_right _ h))) hown hK hP 0 rfl rfl 3 (by decide) (hts (.fieldLink RX1 17 "LitmusHall$Explorer" "path" "[I") (by decide +kernel)) (fun _ h9 => h9) rfl dX1_pathTo_77 ?_
      refine lv_iload_n hx hb dX1_pathTo_80 rfl (lv_at hl 3 rfl) ?_
      refine lv_iconst (v := 1) hx hb dX1_pathTo_81 (by decide) ?_
      refine lv_isub hx hb dX1_pathTo_82 ?_
      refine gx_top (y := nI (t - 1)) (pk_sub (a := t) (b := 1) (by omega)) ?_
      refine lv_iload hx hb dX1_pathTo_83 (lv_at hl 1 rfl) ?_
      refine lv_isub hx hb dX1_pathTo_85 ?_
      refine gx_top (y := nI ((t - 1) - i)) (pk_sub (a := t - 1) (b := i) (by omega)) ?_
      refine gy_ild (i := ((t - 1) - i)) hx hb hK hP 1 rfl (by omega) (by omega) dX1_pathTo_86 ?_
      refine gx_gen (fun z_4 => ?_)
      refine gy_ist (i := i) hx hb hK hP hD hS 1 rfl (by omega) (by omega) dX1_pathTo_87 (fun H locs hP hD hS => ?_)
      have hP : va_P D vwCl [(h0, .inr (1, [v0, v1, v2, .ref a3, v4, v5, v6, v7, v8, .ref a9])), (a3, .inl (cI, 38, .inl (upd pf i z_4))), (a9, .inl (cI, 3000, .inl cm))] H := hP
      have hD : va_D A [(h0, .inr (1, [v0, v1, v2, .ref a3, v4, v5, v6, v7, v8, .ref a9])), (a3, .inl (cI, 38, .inl (upd pf i z_4))), (a9, .inl (cI, 3000, .inl cm))] := hD
      refine lv_aload_n hx hb dX1_pathTo_88 rfl (lv_at hl 4 rfl) ?_
      refine va_get (D := D) (ci := 1) (v := .ref a3) (C := RX1) (T := TX1) (N := 10) hx hb hts (fun _ h => List.mem_cons_of_mem _ (List.mem_append_left _ (List.mem_append_right _ h))) hown hK hP 0 rfl rfl 3 (by decide) (hts (.fieldLink RX1 17 "LitmusHall$Explorer" "path" "[I") (by decide +kernel)) (fun _ h9 => h9) rfl dX1_pathTo_89 ?_
      refine lv_iload_n hx hb dX1_pathTo_92 rfl (lv_at hl 3 rfl) ?_
      refine lv_iconst (v := 1) hx hb dX1_pathTo_93 (by decide) ?_
      refine lv_isub hx hb dX1_pathTo_94 ?_
      refine gx_top (y := nI (t - 1)) (pk_sub (a := t) (b := 1) (by omega)) ?_
      refine lv_iload hx hb dX1_pathTo_95 (lv_at hl 1 rfl) ?_
      refine lv_isub hx hb dX1_pathTo_97 ?_
      refine gx_top (y := nI ((t - 1) - i)) (pk_sub (a := t - 1) (b := i) (by omega)) ?_
      refine lv_iload hx hb dX1_pathTo_98 (lv_at hl 0 rfl) ?_
      refine gy_ist (i := ((t - 1) - i)) hx hb hK hP hD hS 1 rfl (by omega) (by omega) dX1_pathTo_100 (fun H locs hP hD hS => ?_)
      have hP : va_P D vwCl [(h0, .inr (1, [v0, v1, v2, .ref a3, v4, v5, v6, v7, v8, .ref a9])), (a3, .inl (cI, 38, .inl (upd (upd pf i z_4) ((t - 1) - i) z_3))), (a9, .inl (cI, 3000, .inl cm))] H := hP
      have hD : va_D A [(h0, .inr (1, [v0, v1, v2, .ref a3, v4, v5, v6, v7, v8, .ref a9])), (a3, .inl (cI, 38, .inl (upd (upd pf i z_4) ((t - 1) - i) z_3))), (a9, .inl (cI, 3000, .inl cm))] := hD
      refine lv_iinc (v := nI (i + 1)) (lv' := [(4, .int (nI (i + 1))), (5, .int z_3), (3, .int (nI h)), (2, .int (nI t)), (0, .ref h0), (1, .int (nI n))]) hx hb dX1_pathTo_101 hl (k := 1) rfl (nI_add i 1) (by decide) rfl (fun ls hl => ?_)
      refine lv_goto (tgt := 53) hx hb dX1_pathTo_104 (by decide) ?_
      exact ih53 ((i + 1), (upd (upd pf i z_4) ((t - 1) - i) z_3)) H locs ls ⟨(by show (i + 1) ≤ t / 2; omega), hP, hD, hS, lv_sub hl [0, 2, 3, 4, 5] rfl⟩ (by show t - (i + 1) < t - i; omega)
  · refine lv_aload_n hx hb dX1_pathTo_10 rfl (lv_at hl 2 rfl) ?_
    refine va_get (D := D) (ci := 1) (v := .ref a9) (C := RX1) (T := TX1) (N := 10) hx hb hts (fun _ h => List.mem_cons_of_mem _ (List.mem_append_left _ (List.mem_append_right _ h))) hown hK hP 0 rfl rfl 9 (by decide) (hts (.fieldLink RX1 38 "LitmusHall$Explorer" "came" "[I") (by decide +kernel)) (fun _ h9 => h9) rfl dX1_pathTo_11 ?_
    refine lv_iload_n hx hb dX1_pathTo_14 rfl (lv_at hl 0 rfl) ?_
    refine gy_ild (i := h) hx hb hK hP 2 rfl (by omega) (by omega) dX1_pathTo_15 ?_
    refine lv_iconst (v := (-1)) hx hb dX1_pathTo_16 (by decide) ?_
    refine lv_icmp_eq (tgt := 50) hx hb dX1_pathTo_17 (by decide) (fun c_5 => ?_) (fun c_5 => ?_)
    · refine lv_iconst (v := 0) hx hb dX1_pathTo_50 (by decide) ?_
      refine lv_istore (lv' := [(4, .int 0), (3, .int (nI h)), (2, .int (nI t)), (0, .ref h0), (1, .int (nI n))]) hx hb dX1_pathTo_51 hl (by decide) rfl (fun ls hl => ?_)
      refine gy_loop0 (I := fun (x9 : Nat × (Nat → Int32)) H locs ls => (x9.1 ≤ t / 2) ∧ va_P D vwCl [(h0, .inr (1, [v0, v1, v2, .ref a3, v4, v5, v6, v7, v8, .ref a9])), (a3, .inl (cI, 38, .inl x9.2)), (a9, .inl (cI, 3000, .inl cm))] H ∧ va_D A [(h0, .inr (1, [v0, v1, v2, .ref a3, v4, v5, v6, v7, v8, .ref a9])), (a3, .inl (cI, 38, .inl x9.2)), (a9, .inl (cI, 3000, .inl cm))] ∧ va_S A s.heap H locs ∧ lv_has ls 6 [(4, .int (nI x9.1)), (3, .int (nI h)), (2, .int (nI t)), (0, .ref h0), (1, .int (nI n))]) (μ := fun (x9 : Nat × (Nat → Int32)) => t - x9.1) (fun x9 H locs ls hI ih53 => ?_) (0, pf) ⟨(by show 0 ≤ t / 2; exact Nat.zero_le _), hP, hD, hS, lv_sub hl [0, 1, 2, 3, 4] rfl⟩
      obtain ⟨i, pf⟩ := x9
      obtain ⟨hi53_0, hP, hD, hS, hl⟩ := hI
      have hi53_0 : i ≤ t / 2 := hi53_0
      have hP : va_P D vwCl [(h0, .inr (1, [v0, v1, v2, .ref a3, v4, v5, v6, v7, v8, .ref a9])), (a3, .inl (cI, 38, .inl pf)), (a9, .inl (cI, 3000, .inl cm))] H := hP
      have hD : va_D A [(h0, .inr (1, [v0, v1, v2, .ref a3, v4, v5, v6, v7, v8, .ref a9])), (a3, .inl (cI, 38, .inl pf)), (a9, .inl (cI, 3000, .inl cm))] := hD
      have hS : va_S A s.heap H locs := hS
      have hl : lv_has ls 6 [(4, .int (nI i)), (3, .int (nI h)), (2, .int (nI t)), (0, .ref h0), (1, .int (nI n))] := hl
      refine lv_iload hx hb dX1_pathTo_53 (lv_at hl 0 rfl) ?_
      refine lv_iload_n hx hb dX1_pathTo_55 rfl (lv_at hl 2 rfl) ?_
      refine lv_iconst (v := 2) hx hb dX1_pathTo_56 (by decide) ?_
      refine lv_idiv hx hb dX1_pathTo_57 (by decide) ?_
      refine gx_top (y := nI ((t) / 2)) (gy_div (a := t) (b := 2) (by omega) (by decide)) ?_
      refine gy_ge (a := i) (b := ((t) / 2)) (tgt := 107) hx hb (by omega) (by omega) dX1_pathTo_58 (by decide) (fun c_6 => ?_) (fun c_6 => ?_)
      · refine lv_iload_n hx hb dX1_pathTo_107 rfl (lv_at hl 2 rfl) ?_
        exact gx_iret (w' := [(h0, .inr (1, [v0, v1, v2, .ref a3, v4, v5, v6, v7, v8, .ref a9])), (a3, .inl (cI, 38, .inl pf)), (a9, .inl (cI, 3000, .inl cm))]) hx hb hr hlk hK hP hD hS (Nat.le_of_ble_eq_true rfl) (Nat.le_of_ble_eq_true rfl) dX1_pathTo_108 ⟨t, pf, (by omega), rfl, rfl⟩
      · refine lv_aload_n hx hb dX1_pathTo_61 rfl (lv_at hl 3 rfl) ?_
        refine va_get (D := D) (ci := 1) (v := .ref a3) (C := RX1) (T := TX1) (N := 10) hx hb hts (fun _ h => List.mem_cons_of_mem _ (List.mem_append_left _ (List.mem_append_right _ h))) hown hK hP 0 rfl rfl 3 (by decide) (hts (.fieldLink RX1 17 "LitmusHall$Explorer" "path" "[I") (by decide +kernel)) (fun _ h9 => h9) rfl dX1_pathTo_62 ?_
        refine lv_iload hx hb dX1_pathTo_65 (lv_at hl 0 rfl) ?_
        refine gy_ild (i := i) hx hb hK hP 1 rfl (by omega) (by omega) dX1_pathTo_67 ?_
        refine gx_gen (fun z_7 => ?_)
        refine lv_istore (lv' := [(5, .int z_7), (4, .int (nI i)), (3, .int (nI h)), (2, .int (nI t)), (0, .ref h0), (1, .int (nI n))]) hx hb dX1_pathTo_68 hl (by decide) rfl (fun ls hl => ?_)
        refine lv_aload_n hx hb dX1_pathTo_70 rfl (lv_at hl 4 rfl) ?_
        refine va_get (D := D) (ci := 1) (v := .ref a3) (C := RX1) (T := TX1) (N := 10) hx hb hts (fun _ h => List.mem_cons_of_mem _ (List.mem_append_left _ (List.mem_append_right _ h))) hown hK hP 0 rfl rfl 3 (by decide) (hts (.fieldLink RX1 17 "LitmusHall$Explorer" "path" "[I") (by decide +kernel)) (fun _ h9 => h9) rfl dX1_pathTo_71 ?_
        refine lv_iload hx hb dX1_pathTo_74 (lv_at hl 1 rfl) ?_
        refine lv_aload_n hx hb dX1_pathTo_76 rfl (lv_at hl 4 rfl) ?_
        refine va_get (D := D) (ci := 1) (v := .ref a3) (C := RX1) (T := TX1) (N := 10) hx hb hts (fun _ h => List.mem_cons_of_mem _ (List.mem_append_left _ (List.mem_append_right _ h))) hown hK hP 0 rfl rfl 3 (by decide) (hts (.fieldLink RX1 17 "LitmusHall$Explorer" "path" "[I") (by decide +kernel)) (fun _ h9 => h9) rfl dX1_pathTo_77 ?_
        refine lv_iload_n hx hb dX1_pathTo_80 rfl (lv_at hl 3 rfl) ?_
        refine lv_iconst (v := 1) hx hb dX1_pathTo_81 (by decide) ?_
        refine lv_isub hx hb dX1_pathTo_82 ?_
        refine gx_top (y := nI (t - 1)) (pk_sub (a := t) (b := 1) (by omega)) ?_
        refine lv_iload hx hb dX1_pathTo_83 (lv_at hl 1 rfl) ?_
        refine lv_isub hx hb dX1_pathTo_85 ?_
        refine gx_top (y := nI ((t - 1) - i)) (pk_sub (a := t - 1) (b := i) (by omega)) ?_
        refine gy_ild (i := ((t - 1) - i)) hx hb hK hP 1 rfl (by omega) (by omega) dX1_pathTo_86 ?_
        refine gx_gen (fun z_8 => ?_)
        refine gy_ist (i := i) hx hb hK hP hD hS 1 rfl (by omega) (by omega) dX1_pathTo_87 (fun H locs hP hD hS => ?_)
        have hP : va_P D vwCl [(h0, .inr (1, [v0, v1, v2, .ref a3, v4, v5, v6, v7, v8, .ref a9])), (a3, .inl (cI, 38, .inl (upd pf i z_8))), (a9, .inl (cI, 3000, .inl cm))] H := hP
        have hD : va_D A [(h0, .inr (1, [v0, v1, v2, .ref a3, v4, v5, v6, v7, v8, .ref a9])), (a3, .inl (cI, 38, .inl (upd pf i z_8))), (a9, .inl (cI, 3000, .inl cm))] := hD
        refine lv_aload_n hx hb dX1_pathTo_88 rfl (lv_at hl 4 rfl) ?_
        refine va_get (D := D) (ci := 1) (v := .ref a3) (C := RX1) (T := TX1) (N := 10) hx hb hts (fun _ h => List.mem_cons_of_mem _ (List.mem_append_left _ (List.mem_append_right _ h))) hown hK hP 0 rfl rfl 3 (by decide) (hts (.fieldLink RX1 17 "LitmusHall$Explorer" "path" "[I") (by decide +kernel)) (fun _ h9 => h9) rfl dX1_pathTo_89 ?_
        refine lv_iload_n hx hb dX1_pathTo_92 rfl (lv_at hl 3 rfl) ?_
        refine lv_iconst (v := 1) hx hb dX1_pathTo_93 (by decide) ?_
        refine lv_isub hx hb dX1_pathTo_94 ?_
        refine gx_top (y := nI (t - 1)) (pk_sub (a := t) (b := 1) (by omega)) ?_
        refine lv_iload hx hb dX1_pathTo_95 (lv_at hl 1 rfl) ?_
        refine lv_isub hx hb dX1_pathTo_97 ?_
        refine gx_top (y := nI ((t - 1) - i)) (pk_sub (a := t - 1) (b := i) (by omega)) ?_
        refine lv_iload hx hb dX1_pathTo_98 (lv_at hl 0 rfl) ?_
        refine gy_ist (i := ((t - 1) - i)) hx hb hK hP hD hS 1 rfl (by omega) (by omega) dX1_pathTo_100 (fun H locs hP hD hS => ?_)
        have hP : va_P D vwCl [(h0, .inr (1, [v0, v1, v2, .ref a3, v4, v5, v6, v7, v8, .ref a9])), (a3, .inl (cI, 38, .inl (upd (upd pf i z_8) ((t - 1) - i) z_7))), (a9, .inl (cI, 3000, .inl cm))] H := hP
        have hD : va_D A [(h0, .inr (1, [v0, v1, v2, .ref a3, v4, v5, v6, v7, v8, .ref a9])), (a3, .inl (cI, 38, .inl (upd (upd pf i z_8) ((t - 1) - i) z_7))), (a9, .inl (cI, 3000, .inl cm))] := hD
        refine lv_iinc (v := nI (i + 1)) (lv' := [(4, .int (nI (i + 1))), (5, .int z_7), (3, .int (nI h)), (2, .int (nI t)), (0, .ref h0), (1, .int (nI n))]) hx hb dX1_pathTo_101 hl (k := 1) rfl (nI_add i 1) (by decide) rfl (fun ls hl => ?_)
        refine lv_goto (tgt := 53) hx hb dX1_pathTo_104 (by decide) ?_
        exact ih53 ((i + 1), (upd (upd pf i z_8) ((t - 1) - i) z_7)) H locs ls ⟨(by show (i + 1) ≤ t / 2; omega), hP, hD, hS, lv_sub hl [0, 2, 3, 4, 5] rfl⟩ (by show t - (i + 1) < t - i; omega)
    · obtain ⟨q, hq1, hq2⟩ := (hcm h (by omega)).resolve_left c_5
      refine lv_aload_n hx hb dX1_pathTo_20 rfl (lv_at hl 2 rfl) ?_
      refine va_get (D := D) (ci := 1) (v := .ref a3) (C := RX1) (T := TX1) (N := 10) hx hb hts (fun _ h => List.mem_cons_of_mem _ (List.mem_append_left _ (List.mem_append_right _ h))) hown hK hP 0 rfl rfl 3 (by decide) (hts (.fieldLink RX1 17 "LitmusHall$Explorer" "path" "[I") (by decide +kernel)) (fun _ h9 => h9) rfl dX1_pathTo_21 ?_
      refine lv_iload_n hx hb dX1_pathTo_24 rfl (lv_at hl 1 rfl) ?_
      refine lv_aload_n hx hb dX1_pathTo_25 rfl (lv_at hl 2 rfl) ?_
      refine va_get (D := D) (ci := 1) (v := .ref a9) (C := RX1) (T := TX1) (N := 10) hx hb hts (fun _ h => List.mem_cons_of_mem _ (List.mem_append_left _ (List.mem_append_right _ h))) hown hK hP 0 rfl rfl 9 (by decide) (hts (.fieldLink RX1 38 "LitmusHall$Explorer" "came" "[I") (by decide +kernel)) (fun _ h9 => h9) rfl dX1_pathTo_26 ?_
      refine lv_iload_n hx hb dX1_pathTo_29 rfl (lv_at hl 0 rfl) ?_
      refine gy_ild (i := h) hx hb hK hP 2 rfl (by omega) (by omega) dX1_pathTo_30 ?_
      refine lv_bipush (v := 7) hx hb dX1_pathTo_31 (by decide) ?_
      refine lv_iand hx hb dX1_pathTo_33 ?_
      refine gx_top (pk_and (cm h) (m := 7) 3 (by decide +kernel)) ?_
      have hj9 : (cm h).toBitVec.toNat % 8 < 8 := Nat.mod_lt _ (by decide)
      refine gy_ist (i := t) hx hb hK hP hD hS 1 rfl (by omega) (by omega) dX1_pathTo_34 (fun H locs hP hD hS => ?_)
      have hP : va_P D vwCl [(h0, .inr (1, [v0, v1, v2, .ref a3, v4, v5, v6, v7, v8, .ref a9])), (a3, .inl (cI, 38, .inl (upd pf t (nI ((cm h).toBitVec.toNat % 8))))), (a9, .inl (cI, 3000, .inl cm))] H := hP
      have hD : va_D A [(h0, .inr (1, [v0, v1, v2, .ref a3, v4, v5, v6, v7, v8, .ref a9])), (a3, .inl (cI, 38, .inl (upd pf t (nI ((cm h).toBitVec.toNat % 8))))), (a9, .inl (cI, 3000, .inl cm))] := hD
      refine lv_aload_n hx hb dX1_pathTo_35 rfl (lv_at hl 2 rfl) ?_
      refine va_get (D := D) (ci := 1) (v := .ref a9) (C := RX1) (T := TX1) (N := 10) hx hb hts (fun _ h => List.mem_cons_of_mem _ (List.mem_append_left _ (List.mem_append_right _ h))) hown hK hP 0 rfl rfl 9 (by decide) (hts (.fieldLink RX1 38 "LitmusHall$Explorer" "came" "[I") (by decide +kernel)) (fun _ h9 => h9) rfl dX1_pathTo_36 ?_
      refine lv_iload_n hx hb dX1_pathTo_39 rfl (lv_at hl 0 rfl) ?_
      refine gy_ild (i := h) hx hb hK hP 2 rfl (by omega) (by omega) dX1_pathTo_40 ?_
      refine gx_top (y := nI q) hq2 ?_
      refine lv_iconst (v := 3) hx hb dX1_pathTo_41 (by decide) ?_
      refine lv_ishr hx hb dX1_pathTo_42 ?_
      refine gx_top (y := nI (q / 8)) (pk_shrN (n := q) (by omega) _ 3 (by decide +kernel)) ?_
      refine lv_istore_n (lv' := [(3, .int (nI (q / 8))), (2, .int (nI t)), (0, .ref h0), (1, .int (nI n))]) hx hb dX1_pathTo_43 rfl hl (by decide) rfl (fun ls hl => ?_)
      refine lv_iinc (v := nI (t + 1)) (lv' := [(2, .int (nI (t + 1))), (3, .int (nI (q / 8))), (0, .ref h0), (1, .int (nI n))]) hx hb dX1_pathTo_44 hl (k := 1) rfl (nI_add t 1) (by decide) rfl (fun ls hl => ?_)
      refine lv_goto (tgt := 4) hx hb dX1_pathTo_47 (by decide) ?_
      exact ih4 ((t + 1), (q / 8), (upd pf t (nI ((cm h).toBitVec.toNat % 8)))) H locs ls ⟨(by show (t + 1) ≤ 38; omega), (by show (q / 8) < sz; omega), hP, hD, hS, lv_sub hl [1, 0, 2, 3] rfl⟩ (by show 38 - (t + 1) < 38 - t; omega)
