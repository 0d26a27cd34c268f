theorem dJ6_compare_7cf53_0 : decode cJ6_compare_7cf53 0 = .ok (.iload_n 0, 1) := by decide +kernel
theorem dJ6_compare_7cf53_1 : decode cJ6_compare_7cf53 1 = .ok (.iload_n 1, 1) := by decide +kernel
theorem dJ6_compare_7cf53_10 : decode cJ6_compare_7cf53 10 = .ok (.iload_n 1, 1) := by decide +kernel
theorem dJ6_compare_7cf53_11 : decode cJ6_compare_7cf53 11 = .ok (.if_icmp .ne 7, 3) := by decide +kernel
theorem dJ6_compare_7cf53_14 : decode cJ6_compare_7cf53 14 = .ok (.iconst 0, 1) := by decide +kernel
theorem dJ6_compare_7cf53_15 : decode cJ6_compare_7cf53 15 = .ok (.goto 4, 3) := by decide +kernel
theorem dJ6_compare_7cf53_18 : decode cJ6_compare_7cf53 18 = .ok (.iconst 1, 1) := by decide +kernel
theorem dJ6_compare_7cf53_19 : decode cJ6_compare_7cf53 19 = .ok (.ireturn, 1) := by decide +kernel
theorem dJ6_compare_7cf53_2 : decode cJ6_compare_7cf53 2 = .ok (.if_icmp .ge 7, 3) := by decide +kernel
theorem dJ6_compare_7cf53_5 : decode cJ6_compare_7cf53 5 = .ok (.iconst (-1), 1) := by decide +kernel
theorem dJ6_compare_7cf53_6 : decode cJ6_compare_7cf53 6 = .ok (.goto 13, 3) := by decide +kernel
theorem dJ6_compare_7cf53_9 : decode cJ6_compare_7cf53 9 = .ok (.iload_n 0, 1) := by decide +kernel
theorem dJ7_fill_fda19_0 : decode cJ7_fill_fda19 0 = .ok (.aload_n 0, 1) := by decide +kernel
theorem dJ7_fill_fda19_1 : decode cJ7_fill_fda19 1 = .ok (.arraylength, 1) := by decide +kernel
theorem dJ7_fill_fda19_10 : decode cJ7_fill_fda19 10 = .ok (.iload 4, 2) := by decide +kernel
theorem dJ7_fill_fda19_12 : decode cJ7_fill_fda19 12 = .ok (.iload_n 2, 1) := by decide +kernel
theorem dJ7_fill_fda19_13 : decode cJ7_fill_fda19 13 = .ok (.if_icmp .ge 14, 3) := by decide +kernel
theorem dJ7_fill_fda19_16 : decode cJ7_fill_fda19 16 = .ok (.aload_n 0, 1) := by decide +kernel
theorem dJ7_fill_fda19_17 : decode cJ7_fill_fda19 17 = .ok (.iload 4, 2) := by decide +kernel
theorem dJ7_fill_fda19_19 : decode cJ7_fill_fda19 19 = .ok (.iload_n 3, 1) := by decide +kernel
theorem dJ7_fill_fda19_2 : decode cJ7_fill_fda19 2 = .ok (.iload_n 1, 1) := by decide +kernel
theorem dJ7_fill_fda19_20 : decode cJ7_fill_fda19 20 = .ok (.iastore, 1) := by decide +kernel
theorem dJ7_fill_fda19_21 : decode cJ7_fill_fda19 21 = .ok (.iinc 4 1, 3) := by decide +kernel
theorem dJ7_fill_fda19_24 : decode cJ7_fill_fda19 24 = .ok (.goto (-14), 3) := by decide +kernel
theorem dJ7_fill_fda19_27 : decode cJ7_fill_fda19 27 = .ok (.return_, 1) := by decide +kernel
theorem dJ7_fill_fda19_3 : decode cJ7_fill_fda19 3 = .ok (.iload_n 2, 1) := by decide +kernel
theorem dJ7_fill_fda19_4 : decode cJ7_fill_fda19 4 = .ok (.invokestatic 13, 3) := by decide +kernel
theorem dJ7_fill_fda19_7 : decode cJ7_fill_fda19 7 = .ok (.iload_n 1, 1) := by decide +kernel
theorem dJ7_fill_fda19_8 : decode cJ7_fill_fda19 8 = .ok (.istore 4, 2) := by decide +kernel
theorem dJ7_rangeCheck_23922_0 : decode cJ7_rangeCheck_23922 0 = .ok (.iload_n 1, 1) := by decide +kernel
theorem dJ7_rangeCheck_23922_1 : decode cJ7_rangeCheck_23922 1 = .ok (.iload_n 2, 1) := by decide +kernel
theorem dJ7_rangeCheck_23922_2 : decode cJ7_rangeCheck_23922 2 = .ok (.if_icmp .le 44, 3) := by decide +kernel
theorem dJ7_rangeCheck_23922_46 : decode cJ7_rangeCheck_23922 46 = .ok (.iload_n 1, 1) := by decide +kernel
theorem dJ7_rangeCheck_23922_47 : decode cJ7_rangeCheck_23922 47 = .ok (.ifCond .ge 12, 3) := by decide +kernel
theorem dJ7_rangeCheck_23922_59 : decode cJ7_rangeCheck_23922 59 = .ok (.iload_n 2, 1) := by decide +kernel
theorem dJ7_rangeCheck_23922_60 : decode cJ7_rangeCheck_23922 60 = .ok (.iload_n 0, 1) := by decide +kernel
theorem dJ7_rangeCheck_23922_61 : decode cJ7_rangeCheck_23922 61 = .ok (.if_icmp .le 12, 3) := by decide +kernel
theorem dJ7_rangeCheck_23922_73 : decode cJ7_rangeCheck_23922 73 = .ok (.return_, 1) := by decide +kernel
theorem dX2_record_0 : decode cX2_record 0 = .ok (.aload_n 1, 1) := by decide +kernel
theorem dX2_record_1 : decode cX2_record 1 = .ok (.getfield 45, 3) := by decide +kernel
theorem dX2_record_10 : decode cX2_record 10 = .ok (.iload 4, 2) := by decide +kernel
theorem dX2_record_101 : decode cX2_record 101 = .ok (.bipush 10, 2) := by decide +kernel
theorem dX2_record_103 : decode cX2_record 103 = .ok (.idiv, 1) := by decide +kernel
theorem dX2_record_104 : decode cX2_record 104 = .ok (.iadd, 1) := by decide +kernel
theorem dX2_record_105 : decode cX2_record 105 = .ok (.dup2, 1) := by decide +kernel
theorem dX2_record_106 : decode cX2_record 106 = .ok (.iaload, 1) := by decide +kernel
theorem dX2_record_107 : decode cX2_record 107 = .ok (.iload 7, 2) := by decide +kernel
theorem dX2_record_109 : decode cX2_record 109 = .ok (.iconst 3, 1) := by decide +kernel
theorem dX2_record_110 : decode cX2_record 110 = .ok (.iload 6, 2) := by decide +kernel
theorem dX2_record_112 : decode cX2_record 112 = .ok (.bipush 10, 2) := by decide +kernel
theorem dX2_record_114 : decode cX2_record 114 = .ok (.irem, 1) := by decide +kernel
theorem dX2_record_115 : decode cX2_record 115 = .ok (.imul, 1) := by decide +kernel
theorem dX2_record_116 : decode cX2_record 116 = .ok (.ishl, 1) := by decide +kernel
theorem dX2_record_117 : decode cX2_record 117 = .ok (.ior, 1) := by decide +kernel
theorem dX2_record_118 : decode cX2_record 118 = .ok (.iastore, 1) := by decide +kernel
theorem dX2_record_119 : decode cX2_record 119 = .ok (.iinc 6 1, 3) := by decide +kernel
theorem dX2_record_12 : decode cX2_record 12 = .ok (.bipush 13, 2) := by decide +kernel
theorem dX2_record_122 : decode cX2_record 122 = .ok (.goto (-47), 3) := by decide +kernel
theorem dX2_record_125 : decode cX2_record 125 = .ok (.return_, 1) := by decide +kernel
theorem dX2_record_14 : decode cX2_record 14 = .ok (.if_icmp .ge 28, 3) := by decide +kernel
theorem dX2_record_17 : decode cX2_record 17 = .ok (.aload_n 0, 1) := by decide +kernel
theorem dX2_record_18 : decode cX2_record 18 = .ok (.getfield 11, 3) := by decide +kernel
theorem dX2_record_21 : decode cX2_record 21 = .ok (.iload_n 2, 1) := by decide +kernel
theorem dX2_record_22 : decode cX2_record 22 = .ok (.bipush 17, 2) := by decide +kernel
theorem dX2_record_24 : decode cX2_record 24 = .ok (.imul, 1) := by decide +kernel
theorem dX2_record_25 : decode cX2_record 25 = .ok (.iload 4, 2) := by decide +kernel
theorem dX2_record_27 : decode cX2_record 27 = .ok (.iadd, 1) := by decide +kernel
theorem dX2_record_28 : decode cX2_record 28 = .ok (.aload_n 1, 1) := by decide +kernel
theorem dX2_record_29 : decode cX2_record 29 = .ok (.iload_n 3, 1) := by decide +kernel
theorem dX2_record_30 : decode cX2_record 30 = .ok (.iload 4, 2) := by decide +kernel
theorem dX2_record_32 : decode cX2_record 32 = .ok (.invokevirtual 48, 3) := by decide +kernel
theorem dX2_record_35 : decode cX2_record 35 = .ok (.iastore, 1) := by decide +kernel
theorem dX2_record_36 : decode cX2_record 36 = .ok (.iinc 4 1, 3) := by decide +kernel
theorem dX2_record_39 : decode cX2_record 39 = .ok (.goto (-29), 3) := by decide +kernel
theorem dX2_record_4 : decode cX2_record 4 = .ok (.iload_n 2, 1) := by decide +kernel
theorem dX2_record_42 : decode cX2_record 42 = .ok (.iload_n 2, 1) := by decide +kernel
theorem dX2_record_43 : decode cX2_record 43 = .ok (.bipush 17, 2) := by decide +kernel
theorem dX2_record_45 : decode cX2_record 45 = .ok (.imul, 1) := by decide +kernel
theorem dX2_record_46 : decode cX2_record 46 = .ok (.bipush 13, 2) := by decide +kernel
theorem dX2_record_48 : decode cX2_record 48 = .ok (.iadd, 1) := by decide +kernel
theorem dX2_record_49 : decode cX2_record 49 = .ok (.istore 4, 2) := by decide +kernel
theorem dX2_record_5 : decode cX2_record 5 = .ok (.iaload, 1) := by decide +kernel
theorem dX2_record_51 : decode cX2_record 51 = .ok (.aload_n 0, 1) := by decide +kernel
theorem dX2_record_52 : decode cX2_record 52 = .ok (.getfield 11, 3) := by decide +kernel
theorem dX2_record_55 : decode cX2_record 55 = .ok (.iload 4, 2) := by decide +kernel
theorem dX2_record_57 : decode cX2_record 57 = .ok (.iload 4, 2) := by decide +kernel
theorem dX2_record_59 : decode cX2_record 59 = .ok (.iconst 4, 1) := by decide +kernel
theorem dX2_record_6 : decode cX2_record 6 = .ok (.istore_n 3, 1) := by decide +kernel
theorem dX2_record_60 : decode cX2_record 60 = .ok (.iadd, 1) := by decide +kernel
theorem dX2_record_61 : decode cX2_record 61 = .ok (.iconst 0, 1) := by decide +kernel
theorem dX2_record_62 : decode cX2_record 62 = .ok (.invokestatic 51, 3) := by decide +kernel
theorem dX2_record_65 : decode cX2_record 65 = .ok (.aload_n 1, 1) := by decide +kernel
theorem dX2_record_66 : decode cX2_record 66 = .ok (.iload_n 3, 1) := by decide +kernel
theorem dX2_record_67 : decode cX2_record 67 = .ok (.invokevirtual 57, 3) := by decide +kernel
theorem dX2_record_7 : decode cX2_record 7 = .ok (.iconst 0, 1) := by decide +kernel
theorem dX2_record_70 : decode cX2_record 70 = .ok (.istore 5, 2) := by decide +kernel
theorem dX2_record_72 : decode cX2_record 72 = .ok (.iconst 0, 1) := by decide +kernel
theorem dX2_record_73 : decode cX2_record 73 = .ok (.istore 6, 2) := by decide +kernel
theorem dX2_record_75 : decode cX2_record 75 = .ok (.iload 6, 2) := by decide +kernel
theorem dX2_record_77 : decode cX2_record 77 = .ok (.iload 5, 2) := by decide +kernel
theorem dX2_record_79 : decode cX2_record 79 = .ok (.if_icmp .ge 46, 3) := by decide +kernel
theorem dX2_record_8 : decode cX2_record 8 = .ok (.istore 4, 2) := by decide +kernel
theorem dX2_record_82 : decode cX2_record 82 = .ok (.aload_n 1, 1) := by decide +kernel
theorem dX2_record_83 : decode cX2_record 83 = .ok (.getfield 61, 3) := by decide +kernel
theorem dX2_record_86 : decode cX2_record 86 = .ok (.iload 6, 2) := by decide +kernel
theorem dX2_record_88 : decode cX2_record 88 = .ok (.iaload, 1) := by decide +kernel
theorem dX2_record_89 : decode cX2_record 89 = .ok (.iconst 1, 1) := by decide +kernel
theorem dX2_record_90 : decode cX2_record 90 = .ok (.iadd, 1) := by decide +kernel
theorem dX2_record_91 : decode cX2_record 91 = .ok (.istore 7, 2) := by decide +kernel
theorem dX2_record_93 : decode cX2_record 93 = .ok (.aload_n 0, 1) := by decide +kernel
theorem dX2_record_94 : decode cX2_record 94 = .ok (.getfield 11, 3) := by decide +kernel
theorem dX2_record_97 : decode cX2_record 97 = .ok (.iload 4, 2) := by decide +kernel
theorem dX2_record_99 : decode cX2_record 99 = .ok (.iload 6, 2) := by decide +kernel
def wsP_c_rangeCheck : List Cond := .code yJ7_rangeCheck_23922 cJ7_rangeCheck_23922 3 none :: (([]) ++ [])
theorem gW_c_rangeCheck : wsP_c_rangeCheck.all goodWord = true := by unfold wsP_c_rangeCheck; exact gw_mk (by decide +kernel) rfl
set_option maxHeartbeats 4000000 in
set_option maxRecDepth 100000 in
theorem c_rangeCheck (l : Launch) (D : va_G) (cI cB cZ : ClassId) (a : Nat) (b : Nat) (t : Nat) (h1 : b ≤ t) (h2 : t ≤ a) (h3 : a ≤ 102000) : gMv l yJ7_rangeCheck_23922 wsP_c_rangeCheck ({ frames := 0, cells := 0, slots := 0, locals := 0 }) D cI cB cZ [] [.int (nI a), .int (nI b), .int (nI t)] [] (fun w9 => w9 = []) := by
  refine gMv.of (cc := cJ7_rangeCheck_23922) (maxL := 3) (ret := none) (by decide) rfl (Nat.le_of_ble_eq_true rfl) (fun p e s m below meth c A ls hx hb hr hlk hml hts hown hin hA hP hK hD hS hN hl => ?_)
  have hown : s.vm.findClass RJ7 = some m.cls := hown
  have hl : lv_has ls 3 [(0, .int (nI a)), (1, .int (nI b)), (2, .int (nI t))] := hl
  refine lv_iload_n hx hb dJ7_rangeCheck_23922_0 rfl (lv_at hl 1 rfl) ?_
  refine lv_iload_n hx hb dJ7_rangeCheck_23922_1 rfl (lv_at hl 2 rfl) ?_
  refine gy_le (a := b) (b := t) (tgt := 46) hx hb (by omega) (by omega) dJ7_rangeCheck_23922_2 (by decide) (fun c_1 => ?_) (fun c_1 => ?_)
  · refine lv_iload_n hx hb dJ7_rangeCheck_23922_46 rfl (lv_at hl 1 rfl) ?_
    refine lv_if_ge (tgt := 59) hx hb dJ7_rangeCheck_23922_47 (by decide) (fun _ => ?_) (fun c9 => absurd (nI_pos' (by omega)) c9)
    refine lv_iload_n hx hb dJ7_rangeCheck_23922_59 rfl (lv_at hl 2 rfl) ?_
    refine lv_iload_n hx hb dJ7_rangeCheck_23922_60 rfl (lv_at hl 0 rfl) ?_
    refine gy_le (a := t) (b := a) (tgt := 73) hx hb (by omega) (by omega) dJ7_rangeCheck_23922_61 (by decide) (fun c_2 => ?_) (fun c_2 => ?_)
    · exact gx_vret (w' := []) hx hb hr hlk hK hP hD hS (Nat.le_of_ble_eq_true rfl) (Nat.le_of_ble_eq_true rfl) dJ7_rangeCheck_23922_73 rfl
    · exfalso; omega
  · exfalso; omega
def wsP_c_fill4 : List Cond := .code yJ7_fill_fda19 cJ7_fill_fda19 5 none :: (([.methodLink RJ7 13 yJ7_rangeCheck_23922, .static yJ7_rangeCheck_23922, .initialized yJ7_rangeCheck_23922.cls]) ++ (wsP_c_rangeCheck ++ []))
theorem gW_c_fill4 : wsP_c_fill4.all goodWord = true := by unfold wsP_c_fill4; exact gw_mk (by decide +kernel) (gw_app gW_c_rangeCheck rfl)
set_option maxRecDepth 20000 in
theorem gP_c_fill4__c_rangeCheck : GoodIn wsP_c_fill4 (va_wsS RJ7 13 yJ7_rangeCheck_23922 wsP_c_rangeCheck) := gw_in (pre := [.methodLink RJ7 13 yJ7_rangeCheck_23922, .static yJ7_rangeCheck_23922, .initialized yJ7_rangeCheck_23922.cls]) (by decide +kernel) (fun _ h => List.mem_cons_of_mem _ (List.mem_append_right _ (List.mem_append_left _ h))) gW_c_rangeCheck
set_option maxHeartbeats 4000000 in
set_option maxRecDepth 100000 in
theorem c_fill4 (l : Launch) (D : va_G) (cI cB cZ : ClassId) (a : Nat) (n : Nat) (f : Nat → Int32) (b : Nat) (t : Nat) (x : Int32) (h1 : b ≤ t) (h2 : t ≤ n) (h3 : n ≤ 102000) : gMv l yJ7_fill_fda19 wsP_c_fill4 ({ frames := 1, cells := 0, slots := 0, locals := 22 }) D cI cB cZ [] [.ref a, .int (nI b), .int (nI t), .int x] [(a, .inl (cI, n, .inl f))] (fun w9 => ∃ g : Nat → Int32, w9 = [(a, .inl (cI, n, .inl g))]) := by
  refine gMv.of (cc := cJ7_fill_fda19) (maxL := 5) (ret := none) (by decide) rfl (Nat.le_of_ble_eq_true rfl) (fun p e s m below meth c A ls hx hb hr hlk hml hts hown hin hA hP hK hD hS hN hl => ?_)
  have hown : s.vm.findClass RJ7 = some m.cls := hown
  have hl : lv_has ls 5 [(0, .ref a), (1, .int (nI b)), (2, .int (nI t)), (3, .int x)] := hl
  refine lv_aload_n hx hb dJ7_fill_fda19_0 rfl (lv_at hl 0 rfl) ?_
  refine va_alen (v := nI n) hx hb hK hP 0 0 rfl rfl rfl dJ7_fill_fda19_1 ?_
  refine lv_iload_n hx hb dJ7_fill_fda19_2 rfl (lv_at hl 1 rfl) ?_
  refine lv_iload_n hx hb dJ7_fill_fda19_3 rfl (lv_at hl 2 rfl) ?_
  refine gx_gov (wc := []) (wr := [(a, .inl (cI, n, .inl f))]) (va_runS (As := [.int (nI n), .int (nI b), .int (nI t)]) (rest := []) ⟨hx, hb, hml, hown, hts⟩ (c_rangeCheck l D cI cB cZ n b t (by omega) (by omega) (by omega) _) (va_cwS 3 hts gP_c_fill4__c_rangeCheck rfl rfl rfl (by decide +kernel) ⟨Nat.le_of_ble_eq_true rfl, Nat.le_of_ble_eq_true rfl⟩) (gx_preS hK gN.nil hP hD [] rfl rfl) rfl rfl hl.1 rfl (lv_room (Nat.le_of_ble_eq_true rfl)) dJ7_fill_fda19_4 ⟨Nat.le_of_ble_eq_true rfl, Nat.le_of_ble_eq_true rfl⟩) hP hD hS hA [] [0] rfl rfl rfl (by decide) (fun w1 H locs hp hP hD hS => ?_)
  obtain ⟨rfl⟩ := hp
  refine lv_iload_n hx hb dJ7_fill_fda19_7 rfl (lv_at hl 1 rfl) ?_
  refine lv_istore (lv' := [(4, .int (nI b)), (0, .ref a), (1, .int (nI b)), (2, .int (nI t)), (3, .int x)]) hx hb dJ7_fill_fda19_8 hl (by decide) rfl (fun ls hl => ?_)
  refine gy_loop0 (I := fun (x9 : Nat × (Nat → Int32)) H locs ls => (b ≤ x9.1) ∧ (x9.1 ≤ t) ∧ va_P D vwCl [(a, .inl (cI, n, .inl x9.2))] H ∧ va_D A [(a, .inl (cI, n, .inl x9.2))] ∧ va_S A s.heap H locs ∧ lv_has ls 5 [(4, .int (nI x9.1)), (0, .ref a), (1, .int (nI b)), (2, .int (nI t)), (3, .int x)]) (μ := fun (x9 : Nat × (Nat → Int32)) => t - x9.1) (fun x9 H locs ls hI ih10 => ?_) (b, f) ⟨(by show b ≤ b; omega), (by show b ≤ t; omega), hP, hD, hS, lv_sub hl [0, 1, 2, 3, 4] rfl⟩
  obtain ⟨i, g⟩ := x9
  obtain ⟨hi10_0, hi10_1, hP, hD, hS, hl⟩ := hI
  have hi10_0 : b ≤ i := hi10_0
  have hi10_1 : i ≤ t := hi10_1
  have hP : va_P D vwCl [(a, .inl (cI, n, .inl g))] H := hP
  have hD : va_D A [(a, .inl (cI, n, .inl g))] := hD
  have hS : va_S A s.heap H locs := hS
  have hl : lv_has ls 5 [(4, .int (nI i)), (0, .ref a), (1, .int (nI b)), (2, .int (nI t)), (3, .int x)] := hl
  refine lv_iload hx hb dJ7_fill_fda19_10 (lv_at hl 0 rfl) ?_
  refine lv_iload_n hx hb dJ7_fill_fda19_12 rfl (lv_at hl 3 rfl) ?_
  refine gy_ge (a := i) (b := t) (tgt := 27) hx hb (by omega) (by omega) dJ7_fill_fda19_13 (by decide) (fun c_1 => ?_) (fun c_1 => ?_)
  · exact gx_vret (w' := [(a, .inl (cI, n, .inl g))]) hx hb hr hlk hK hP hD hS (Nat.le_of_ble_eq_true rfl) (Nat.le_of_ble_eq_true rfl) dJ7_fill_fda19_27 ⟨g, rfl⟩
  · refine lv_aload_n hx hb dJ7_fill_fda19_16 rfl (lv_at hl 1 rfl) ?_
    refine lv_iload hx hb dJ7_fill_fda19_17 (lv_at hl 0 rfl) ?_
    refine lv_iload_n hx hb dJ7_fill_fda19_19 rfl (lv_at hl 4 rfl) ?_
    refine gy_ist (i := i) hx hb hK hP hD hS 0 rfl (by omega) (by omega) dJ7_fill_fda19_20 (fun H locs hP hD hS => ?_)
    have hP : va_P D vwCl [(a, .inl (cI, n, .inl (upd g i x)))] H := hP
    have hD : va_D A [(a, .inl (cI, n, .inl (upd g i x)))] := hD
    refine lv_iinc (v := nI (i + 1)) (lv' := [(4, .int (nI (i + 1))), (0, .ref a), (1, .int (nI b)), (2, .int (nI t)), (3, .int x)]) hx hb dJ7_fill_fda19_21 hl (k := 0) rfl (nI_add i 1) (by decide) rfl (fun ls hl => ?_)
    refine lv_goto (tgt := 10) hx hb dJ7_fill_fda19_24 (by decide) ?_
    exact ih10 ((i + 1), (upd g i x)) H locs ls ⟨(by show b ≤ (i + 1); omega), (by show (i + 1) ≤ t; omega), hP, hD, hS, lv_sub hl [0, 1, 2, 3, 4] rfl⟩ (by show t - (i + 1) < t - i; omega)
def wsP_c_compareI : List Cond := .code yJ6_compare_7cf53 cJ6_compare_7cf53 2 (some .int) :: (([]) ++ [])
theorem gW_c_compareI : wsP_c_compareI.all goodWord = true := by unfold wsP_c_compareI; exact gw_mk (by decide +kernel) rfl
set_option maxHeartbeats 4000000 in
set_option maxRecDepth 100000 in
theorem c_compareI (l : Launch) (D : va_G) (cI cB cZ : ClassId) (x : Int32) (y : Int32)  : gMi l yJ6_compare_7cf53 wsP_c_compareI ({ frames := 0, cells := 0, slots := 0, locals := 0 }) D cI cB cZ [] [.int x, .int y] [] (fun r9 w9 => ∃ z : Int32, r9 = z ∧ w9 = []) := by
  refine gMi.of (cc := cJ6_compare_7cf53) (maxL := 2) (ret := (some .int)) (by decide) rfl (Nat.le_of_ble_eq_true rfl) (fun p e s m below meth c A ls hx hb hr hlk hml hts hown hin hA hP hK hD hS hN hl => ?_)
  have hown : s.vm.findClass RJ6 = some m.cls := hown
  have hl : lv_has ls 2 [(0, .int x), (1, .int y)] := hl
  refine lv_iload_n hx hb dJ6_compare_7cf53_0 rfl (lv_at hl 0 rfl) ?_
  refine lv_iload_n hx hb dJ6_compare_7cf53_1 rfl (lv_at hl 1 rfl) ?_
  refine lv_icmp_ge (tgt := 9) hx hb dJ6_compare_7cf53_2 (by decide) (fun c_1 => ?_) (fun c_1 => ?_)
  · refine lv_iload_n hx hb dJ6_compare_7cf53_9 rfl (lv_at hl 0 rfl) ?_
    refine lv_iload_n hx hb dJ6_compare_7cf53_10 rfl (lv_at hl 1 rfl) ?_
    refine lv_icmp_ne (tgt := 18) hx hb dJ6_compare_7cf53_11 (by decide) (fun c_2 => ?_) (fun c_2 => ?_)
    · refine lv_iconst (v := 1) hx hb dJ6_compare_7cf53_18 (by decide) ?_
      exact gx_iret (w' := []) hx hb hr hlk hK hP hD hS (Nat.le_of_ble_eq_true rfl) (Nat.le_of_ble_eq_true rfl) dJ6_compare_7cf53_19 ⟨1, rfl, rfl⟩
    · refine lv_iconst (v := 0) hx hb dJ6_compare_7cf53_14 (by decide) ?_
      refine lv_goto (tgt := 19) hx hb dJ6_compare_7cf53_15 (by decide) ?_
      exact gx_iret (w' := []) hx hb hr hlk hK hP hD hS (Nat.le_of_ble_eq_true rfl) (Nat.le_of_ble_eq_true rfl) dJ6_compare_7cf53_19 ⟨0, rfl, rfl⟩
  · refine lv_iconst (v := (-1)) hx hb dJ6_compare_7cf53_5 (by decide) ?_
    refine lv_goto (tgt := 19) hx hb dJ6_compare_7cf53_6 (by decide) ?_
    exact gx_iret (w' := []) hx hb hr hlk hK hP hD hS (Nat.le_of_ble_eq_true rfl) (Nat.le_of_ble_eq_true rfl) dJ6_compare_7cf53_19 ⟨(-1), rfl, rfl⟩
def wsP_c_record : List Cond := .code yX2_record cX2_record 8 none :: (([.fieldLink RX2 45 "LitmusHall$Explorer" "ends" "[I", .fieldLink RX2 11 "LitmusHall$Findings" "records" "[I", .methodLink RX2 51 yJ7_fill_fda19, .static yJ7_fill_fda19, .initialized yJ7_fill_fda19.cls, .methodLink RX2 57 yX1_pathTo, .instanceMethod yX1_pathTo, .selects RX1 yX1_pathTo yX1_pathTo, .initialized RX1, .fieldLink RX2 61 "LitmusHall$Explorer" "path" "[I", .methodLink RX2 48 yX1_intOf, .instanceMethod yX1_intOf, .selects RX1 yX1_intOf yX1_intOf] ++ wsX10 ++ wsX20) ++ (wsP_c_fill4 ++ (wsP_c_pathTo ++ (wsP_c_xInt ++ []))))
theorem gW_c_record : wsP_c_record.all goodWord = true := by unfold wsP_c_record; exact gw_mk (by decide +kernel) (gw_app gW_c_fill4 (gw_app gW_c_pathTo (gw_app gW_c_xInt rfl)))
set_option maxRecDepth 20000 in
theorem gP_c_record__c_fill4 : GoodIn wsP_c_record (va_wsS RX2 51 yJ7_fill_fda19 wsP_c_fill4) := gw_in (pre := [.methodLink RX2 51 yJ7_fill_fda19, .static yJ7_fill_fda19, .initialized yJ7_fill_fda19.cls]) (by decide +kernel) (fun _ h => List.mem_cons_of_mem _ (List.mem_append_right _ (List.mem_append_left _ h))) gW_c_fill4
set_option maxRecDepth 20000 in
theorem gP_c_record__c_pathTo : GoodIn wsP_c_record (wsV RX2 57 RX1 yX1_pathTo wsP_c_pathTo) := gw_in (pre := [.methodLink RX2 57 yX1_pathTo, .instanceMethod yX1_pathTo, .selects RX1 yX1_pathTo yX1_pathTo, .initialized RX1]) (by decide +kernel) (fun _ h => List.mem_cons_of_mem _ (List.mem_append_right _ (List.mem_append_right _ (List.mem_append_left _ h)))) gW_c_pathTo
set_option maxRecDepth 20000 in
theorem gP_c_record__c_xInt : GoodIn wsP_c_record (wsV RX2 48 RX1 yX1_intOf wsP_c_xInt) := gw_in (pre := [.methodLink RX2 48 yX1_intOf, .instanceMethod yX1_intOf, .selects RX1 yX1_intOf yX1_intOf, .initialized RX1]) (by decide +kernel) (fun _ h => List.mem_cons_of_mem _ (List.mem_append_right _ (List.mem_append_right _ (List.mem_append_right _ (List.mem_append_left _ h))))) gW_c_xInt
set_option maxHeartbeats 4000000 in
set_option maxRecDepth 100000 in
theorem c_record (l : Launch) (D : va_G) (cI cB cZ : ClassId) (h0 : Nat) (a4 : Nat) (x0 : Nat) (a2 : Nat) (a3 : Nat) (a7 : Nat) (a9 : Nat) (v0 : Value) (v1 : Value) (v2 : Value) (v3 : Value) (w0 : Value) (w1 : Value) (w4 : Value) (w5 : Value) (w8 : Value) (rr : Nat) (rec : Nat → Int32) (wd : Nat) (sz : Nat) (es : Nat) (rl : Nat) (ef : Nat → Int32) (pf : Nat → Int32) (rf : Nat → Int32) (cm : Nat → Int32) (n : Nat) (hw16 : 16 ≤ wd) (hw34 : wd ≤ 34) (hrl : rl ≤ 102000) (hsz : sz ≤ 3000) (hfit : sz * wd ≤ rl) (hen : gEn ef es sz) (hcm : gCm cm sz) (hn : n < es) (hr1 : n * 17 + 17 ≤ rr) (hr2 : rr ≤ 51000) : gMv l yX2_record wsP_c_record ({ frames := 2, cells := 0, slots := 0, locals := 46 }) D cI cB cZ [] [.ref h0, .ref x0, .int (nI n)] [(h0, .inr (2, [v0, v1, v2, v3, .ref a4])), (a4, .inl (cI, rr, .inl rec)), (x0, .inr (1, [w0, w1, .ref a2, .ref a3, w4, w5, .int (nI wd), .ref a7, w8, .ref a9])), (a2, .inl (cI, 3000, .inl ef)), (a3, .inl (cI, 38, .inl pf)), (a7, .inl (cI, rl, .inl rf)), (a9, .inl (cI, 3000, .inl cm))] (fun w9 => ∃ rec9 : Nat → Int32, ∃ pf9 : Nat → Int32, w9 = [(h0, .inr (2, [v0, v1, v2, v3, .ref a4])), (a4, .inl (cI, rr, .inl rec9)), (x0, .inr (1, [w0, w1, .ref a2, .ref a3, w4, w5, .int (nI wd), .ref a7, w8, .ref a9])), (a2, .inl (cI, 3000, .inl ef)), (a3, .inl (cI, 38, .inl pf9)), (a7, .inl (cI, rl, .inl rf)), (a9, .inl (cI, 3000, .inl cm))]) := by
  refine gMv.of (cc := cX2_record) (maxL := 8) (ret := none) (by decide) rfl (Nat.le_of_ble_eq_true rfl) (fun p e s m below meth c A ls hx hb hr hlk hml hts hown hin hA hP hK hD hS hN hl => ?_)
  have hown : s.vm.findClass RX2 = some m.cls := hown
  have hl : lv_has ls 8 [(0, .ref h0), (1, .ref x0), (2, .int (nI n))] := hl
  refine lv_aload_n hx hb dX2_record_0 rfl (lv_at hl 1 rfl) ?_
  refine va_get (D := D) (ci := 1) (v := .ref a2) (C := RX1) (T := TX1) (N := 10) hx hb hts (fun _ h => List.mem_cons_of_mem _ (List.mem_append_left _ (List.mem_append_left _ (List.mem_append_right _ h)))) hown hK hP 2 rfl rfl 2 (by decide) (hts (.fieldLink RX2 45 "LitmusHall$Explorer" "ends" "[I") (by decide +kernel)) (fun _ h9 => h9) rfl dX2_record_1 ?_
  refine lv_iload_n hx hb dX2_record_4 rfl (lv_at hl 2 rfl) ?_
  obtain ⟨q, hq1, hq2⟩ := hen n hn
  have hrow := gy_row (n := q) (sz := sz) (wd := wd) hq1
  refine gy_ild (i := n) hx hb hK hP 3 rfl (by omega) (by omega) dX2_record_5 ?_
  refine gx_top (y := nI q) hq2 ?_
  refine lv_istore_n (lv' := [(3, .int (nI q)), (0, .ref h0), (1, .ref x0), (2, .int (nI n))]) hx hb dX2_record_6 rfl hl (by decide) rfl (fun ls hl => ?_)
  refine lv_iconst (v := 0) hx hb dX2_record_7 (by decide) ?_
  refine lv_istore (lv' := [(4, .int 0), (3, .int (nI q)), (0, .ref h0), (1, .ref x0), (2, .int (nI n))]) hx hb dX2_record_8 hl (by decide) rfl (fun ls hl => ?_)
  refine gy_loop0 (I := fun (x9 : Nat × (Nat → Int32)) H locs ls => (x9.1 ≤ 13) ∧ va_P D vwCl [(h0, .inr (2, [v0, v1, v2, v3, .ref a4])), (a4, .inl (cI, rr, .inl x9.2)), (x0, .inr (1, [w0, w1, .ref a2, .ref a3, w4, w5, .int (nI wd), .ref a7, w8, .ref a9])), (a2, .inl (cI, 3000, .inl ef)), (a3, .inl (cI, 38, .inl pf)), (a7, .inl (cI, rl, .inl rf)), (a9, .inl (cI, 3000, .inl cm))] H ∧ va_D A [(h0, .inr (2, [v0, v1, v2, v3, .ref a4])), (a4, .inl (cI, rr, .inl x9.2)), (x0, .inr (1, [w0, w1, .ref a2, .ref a3, w4, w5, .int (nI wd), .ref a7, w8, .ref a9])), (a2, .inl (cI, 3000, .inl ef)), (a3, .inl (cI, 38, .inl pf)), (a7, .inl (cI, rl, .inl rf)), (a9, .inl (cI, 3000, .inl cm))] ∧ va_S A s.heap H locs ∧ lv_has ls 8 [(4, .int (nI x9.1)), (3, .int (nI q)), (0, .ref h0), (1, .ref x0), (2, .int (nI n))]) (μ := fun (x9 : Nat × (Nat → Int32)) => 13 - x9.1) (fun x9 H locs ls hI ih10 => ?_) (0, rec) ⟨(by show 0 ≤ 13; exact Nat.le_of_ble_eq_true rfl), hP, hD, hS, lv_sub hl [0, 1, 2, 3, 4] rfl⟩
  obtain ⟨i, rec⟩ := x9
  obtain ⟨hi10_0, hP, hD, hS, hl⟩ := hI
  have hi10_0 : i ≤ 13 := hi10_0
  have hP : va_P D vwCl [(h0, .inr (2, [v0, v1, v2, v3, .ref a4])), (a4, .inl (cI, rr, .inl rec)), (x0, .inr (1, [w0, w1, .ref a2, .ref a3, w4, w5, .int (nI wd), .ref a7, w8, .ref a9])), (a2, .inl (cI, 3000, .inl ef)), (a3, .inl (cI, 38, .inl pf)), (a7, .inl (cI, rl, .inl rf)), (a9, .inl (cI, 3000, .inl cm))] H := hP
  have hD : va_D A [(h0, .inr (2, [v0, v1, v2, v3, .ref a4])), (a4, .inl (cI, rr, .inl rec)), (x0, .inr (1, [w0, w1, .ref a2, .ref a3, w4, w5, .int (nI wd), .ref a7, w8, .ref a9])), (a2, .inl (cI, 3000, .inl ef)), (a3, .inl (cI, 38, .inl pf)), (a7, .inl (cI, rl, .inl rf)), (a9, .inl (cI, 3000, .inl cm))] := hD
  have hS : va_S A s.heap H locs := hS
  have hl : lv_has ls 8 [(4, .int (nI i)), (3, .int (nI q)), (0, .ref h0), (1, .ref x0), (2, .int (nI n))] := hl
  refine lv_iload hx hb dX2_record_10 (lv_at hl 0 rfl) ?_
  refine lv_bipush (v := 13) hx hb dX2_record_12 (by decide) ?_
  refine gy_ge (a := i) (b := 13) (tgt := 42) hx hb (by omega) (by omega) dX2_record_14 (by decide) (fun c_1 => ?_) (fun c_1 => ?_)
  · refine lv_iload_n hx hb dX2_record_42 rfl (lv_at hl 4 rfl) ?_
    refine lv_bipush (v := 17) hx hb dX2_record_43 (by decide) ?_
    refine lv_imul hx hb dX2_record_45 ?_
    refine gx_top (y := nI (n * 17)) (pk_mul n 17) ?_
    refine lv_bipush (v := 13) hx hb dX2_record_46 (by decide) ?_
    refine lv_iadd hx hb dX2_record_48 ?_
    refine gx_top (y := nI ((n * 17) + 13)) (nI_add (n * 17) 13) ?_
    refine lv_istore (lv' := [(4, .int (nI ((n * 17) + 13))), (3, .int (nI q)), (0, .ref h0), (1, .ref x0), (2, .int (nI n))]) hx hb dX2_record_49 hl (by decide) rfl (fun ls hl => ?_)
    refine lv_aload_n hx hb dX2_record_51 rfl (lv_at hl 2 rfl) ?_
    refine va_get (D := D) (ci := 2) (v := .ref a4) (C := RX2) (T := TX2) (N := 5) hx hb hts (fun _ h => List.mem_cons_of_mem _ (List.mem_append_left _ (List.mem_append_right _ h))) hown hK hP 0 rfl rfl 4 (by decide) (hts (.fieldLink RX2 11 "LitmusHall$Findings" "records" "[I") (by decide +kernel)) (fun _ h9 => h9) rfl dX2_record_52 ?_
    refine lv_iload hx hb dX2_record_55 (lv_at hl 0 rfl) ?_
    refine lv_iload hx hb dX2_record_57 (lv_at hl 0 rfl) ?_
    refine lv_iconst (v := 4) hx hb dX2_record_59 (by decide) ?_
    refine lv_iadd hx hb dX2_record_60 ?_
    refine gx_top (y := nI (((n * 17) + 13) + 4)) (nI_add ((n * 17) + 13) 4) ?_
    refine lv_iconst (v := 0) hx hb dX2_record_61 (by decide) ?_
    refine gx_gov (wc := [(a4, .inl (cI, rr, .inl rec))]) (wr := [(h0, .inr (2, [v0, v1, v2, v3, .ref a4])), (x0, .inr (1, [w0, w1, .ref a2, .ref a3, w4, w5, .int (nI wd), .ref a7, w8, .ref a9])), (a2, .inl (cI, 3000, .inl ef)), (a3, .inl (cI, 38, .inl pf)), (a7, .inl (cI, rl, .inl rf)), (a9, .inl (cI, 3000, .inl cm))]) (va_runS (As := [.ref a4, .int (nI ((n * 17) + 13)), .int (nI (((n * 17) + 13) + 4)), .int 0]) (rest := []) ⟨hx, hb, hml, hown, hts⟩ (c_fill4 l D cI cB cZ a4 rr rec ((n * 17) + 13) (((n * 17) + 13) + 4) 0 (by omega) (by omega) (by omega) _) (va_cwS 4 hts gP_c_record__c_fill4 rfl rfl rfl (by decide +kernel) ⟨Nat.le_of_ble_eq_true rfl, Nat.le_of_ble_eq_true rfl⟩) (gx_preS hK gN.nil hP hD [1] rfl rfl) rfl rfl hl.1 rfl (lv_room (Nat.le_of_ble_eq_true rfl)) dX2_record_62 ⟨Nat.le_of_ble_eq_true rfl, Nat.le_of_ble_eq_true rfl⟩) hP hD hS hA [1] [0, 2, 3, 4, 5, 6] rfl rfl rfl (by decide) (fun w1 H locs hp hP hD hS => ?_)
    obtain ⟨e_2, rfl⟩ := hp
    refine lv_aload_n hx hb dX2_record_65 rfl (lv_at hl 3 rfl) ?_
    refine lv_iload_n hx hb dX2_record_66 rfl (lv_at hl 1 rfl) ?_
    refine gx_goi (wc := [(x0, .inr (1, [w0, w1, .ref a2, .ref a3, w4, w5, .int (nI wd), .ref a7, w8, .ref a9])), (a3, .inl (cI, 38, .inl pf)), (a9, .inl (cI, 3000, .inl cm))]) (wr := [(h0, .inr (2, [v0, v1, v2, v3, .ref a4])), (a2, .inl (cI, 3000, .inl ef)), (a7, .inl (cI, rl, .inl rf)), (a4, .inl (cI, rr, .inl e_2))]) (va_runV (As := [.int (nI q)]) (rest := []) ⟨hx, hb, hml, hown, hts⟩ (c_pathTo l D cI cB cZ x0 a3 a9 (w0) (w1) (.ref a2) (w4) (w5) (.int (nI wd)) (.ref a7) (w8) sz pf cm q (by omega) (by omega) hcm _) (cwV 1 hts gP_c_record__c_pathTo rfl rfl rfl (by decide +kernel) ⟨Nat.le_of_ble_eq_true rfl, Nat.le_of_ble_eq_true rfl⟩) (gx_preV (ci := 1) (q0 := 0) hK gN.nil hP hD [1, 3, 5] rfl rfl rfl rfl) rfl rfl hl.1 rfl (lv_room (Nat.le_of_ble_eq_true rfl)) dX2_record_67 ⟨Nat.le_of_ble_eq_true rfl, Nat.le_of_ble_eq_true rfl⟩) hP hD hS hA [1, 3, 5] [0, 2, 4, 6] rfl rfl rfl (by decide) (fun r1 w1 H locs hp hP hD hS => ?_)
    obtain ⟨t, e_3, hq_4, h9, rfl⟩ := hp
    have h9 := h9.symm
    subst h9
    have hq_4 : t ≤ 38 := hq_4
    refine lv_istore (lv' := [(5, .int (nI t)), (4, .int (nI ((n * 17) + 13))), (3, .int (nI q)), (0, .ref h0), (1, .ref x0), (2, .int (nI n))]) hx hb dX2_record_70 hl (by decide) rfl (fun ls hl => ?_)
    refine lv_iconst (v := 0) hx hb dX2_record_72 (by decide) ?_
    refine lv_istore (lv' := [(6, .int 0), (5, .int (nI t)), (4, .int (nI ((n * 17) + 13))), (3, .int (nI q)), (0, .ref h0), (1, .ref x0), (2, .int (nI n))]) hx hb dX2_record_73 hl (by decide) rfl (fun ls hl => ?_)
    refine gy_loop0 (I := fun (x9 : Nat × (Nat → Int32)) H locs ls => (x9.1 ≤ t) ∧ va_P D vwCl [(h0, .inr (2, [v0, v1, v2, v3, .ref a4])), (a2, .inl (cI, 3000, .inl ef)), (a7, .inl (cI, rl, .inl rf)), (a4, .inl (cI, rr, .inl x9.2)), (x0, .inr (1, [w0, w1, .ref a2, .ref a3, w4, w5, .int (nI wd), .ref a7, w8, .ref a9])), (a3, .inl (cI, 38, .inl e_3)), (a9, .inl (cI, 3000, .inl cm))] H ∧ va_D A [(h0, .inr (2, [v0, v1, v2, v3, .ref a4])), (a2, .inl (cI, 3000, .inl ef)), (a7, .inl (cI, rl, .inl rf)), (a4, .inl (cI, rr, .inl x9.2)), (x0, .inr (1, [w0, w1, .ref a2, .ref a3, w4, w5, .int (nI wd), .ref a7, w8, .ref a9])), (a3, .inl (cI, 38, .inl e_3)), (a9, .inl (cI, 3000, .inl cm))] ∧ va_S A s.heap H locs ∧ lv_has ls 8 [(6, .int (nI x9.1)), (5, .int (nI t)), (4, .int (nI ((n * 17) + 13))), (3, .int (nI q)), (0, .ref h0), (1, .ref x0), (2, .int (nI n))]) (μ := fun (x9 : Nat × (Nat → Int32)) => t - x9.1) (fun x9 H locs ls hI ih75 => ?_) (0, e_2) ⟨(by show 0 ≤ t; exact Nat.zero_le _), hP, hD, hS, lv_sub hl [0, 1, 2, 3, 4, 5, 6] rfl⟩
    obtain ⟨i, rec⟩ := x9
    obtain ⟨hi75_0, hP, hD, hS, hl⟩ := hI
    have hi75_0 : i ≤ t := hi75_0
    have hP : va_P D vwCl [(h0, .inr (2, [v0, v1, v2, v3, .ref a4])), (a2, .inl (cI, 3000, .inl ef)), (a7, .inl (cI, rl, .inl rf)), (a4, .inl (cI, rr, .inl rec)), (x0, .inr (1, [w0, w1, .ref a2, .ref a3, w4, w5, .int (nI wd), .ref a7, w8, .ref a9])), (a3, .inl (cI, 38, .inl e_3)), (a9, .inl (cI, 3000, .inl cm))] H := hP
    have hD : va_D A [(h0, .inr (2, [v0, v1, v2, v3, .ref a4])), (a2, .inl (cI, 3000, .inl ef)), (a7, .inl (cI, rl, .inl rf)), (a4, .inl (cI, rr, .inl rec)), (x0, .inr (1, [w0, w1, .ref a2, .ref a3, w4, w5, .int (nI wd), .ref a7, w8, .ref a9])), (a3, .inl (cI, 38, .inl e_3)), (a9, .inl (cI, 3000, .inl cm))] := hD
    have hS : va_S A s.heap H locs := hS
    have hl : lv_has ls 8 [(6, .int (nI i)), (5, .int (nI t)), (4, .int (nI ((n * 17) + 13))), (3, .int (nI q)), (0, .ref h0), (1, .ref x0), (2, .int (nI n))] := hl
    refine lv_iload hx hb dX2_record_75 (lv_at hl 0 rfl) ?_
    refine lv_iload hx hb dX2_record_77 (lv_at hl 1 rfl) ?_
    refine gy_ge (a := i) (b := t) (tgt := 125) hx hb (by omega) (by omega) dX2_record_79 (by decide) (fun c_5 => ?_) (fun c_5 => ?_)
    · have hP := hP.sub (ws' := [(h0, .inr (2, [v0, v1, v2, v3, .ref a4])), (a4, .inl (cI, rr, .inl rec)), (x0, .inr (1, [w0, w1, .ref a2, .ref a3, w4, w5, .int (nI wd), .ref a7, w8, .ref a9])), (a2, .inl (cI, 3000, .inl ef)), (a3, .inl (cI, 38, .inl e_3)), (a7, .inl (cI, rl, .inl rf)), (a9, .inl (cI, 3000, .inl cm))]) [0, 3, 4, 1, 5, 2, 6] rfl
      have hD := hD.sub (ws' := [(h0, .inr (2, [v0, v1, v2, v3, .ref a4])), (a4, .inl (cI, rr, .inl rec)), (x0, .inr (1, [w0, w1, .ref a2, .ref a3, w4, w5, .int (nI wd), .ref a7, w8, .ref a9])), (a2, .inl (cI, 3000, .inl ef)), (a3, .inl (cI, 38, .inl e_3)), (a7, .inl (cI, rl, .inl rf)), (a9, .inl (cI, 3000, .inl cm))]) [0, 3, 4, 1, 5, 2, 6] (by decide) rfl
      exact gx_vret (w' := [(h0, .inr (2, [v0, v1, v2, v3, .ref a4])), (a4, .inl (cI, rr, .inl rec)), (x0, .inr (1, [w0, w1, .ref a2, .ref a3, w4, w5, .int (nI wd), .ref a7, w8, .ref a9])), (a2, .inl (cI, 3000, .inl ef)), (a3, .inl (cI, 38, .inl e_3)), (a7, .inl (cI, rl, .inl rf)), (a9, .inl (cI, 3000, .inl cm))]) hx hb hr hlk hK hP hD hS (Nat.le_of_ble_eq_true rfl) (Nat.le_of_ble_eq_true rfl) dX2_record_125 ⟨rec, e_3, rfl⟩
    · refine lv_aload_n hx hb dX2_record_82 rfl (lv_at hl 5 rfl) ?_
      refine va_get (D := D) (ci := 1) (v := .ref a3) (C := RX1) (T := TX1) (N := 10) hx hb hts (fun _ h => List.mem_cons_of_mem _ (List.mem_append_left _ (List.mem_append_left _ (List.mem_append_right _ h)))) hown hK hP 4 rfl rfl 3 (by decide) (hts (.fieldLink RX2 61 "LitmusHall$Explorer" "path" "[I") (by decide +kernel)) (fun _ h9 => h9) rfl dX2_record_83 ?_
      refine lv_iload hx hb dX2_record_86 (lv_at hl 0 rfl) ?_
      refine gy_ild (i := i) hx hb hK hP 5 rfl (by omega) (by omega) dX2_record_88 ?_
      refine gx_gen (fun z_6 => ?_)
      refine lv_iconst (v := 1) hx hb dX2_record_89 (by decide) ?_
      refine lv_iadd hx hb dX2_record_90 ?_
      refine gx_gen (fun z_7 => ?_)
      refine lv_istore (lv' := [(7, .int z_7), (6, .int (nI i)), (5, .int (nI t)), (4, .int (nI ((n * 17) + 13))), (3, .int (nI q)), (0, .ref h0), (1, .ref x0), (2, .int (nI n))]) hx hb dX2_record_91 hl (by decide) rfl (fun ls hl => ?_)
      refine lv_aload_n hx hb dX2_record_93 rfl (lv_at hl 5 rfl) ?_
      refine va_get (D := D) (ci := 2) (v := .ref a4) (C := RX2) (T := TX2) (N := 5) hx hb hts (fun _ h => List.mem_cons_of_mem _ (List.mem_append_left _ (List.mem_append_right _ h))) hown hK hP 0 rfl rfl 4 (by decide) (hts (.fieldLink RX2 11 "LitmusHall$Findings" "records" "[I") (by decide +kernel)) (fun _ h9 => h9) rfl dX2_record_94 ?_
      refine lv_iload hx hb dX2_record_97 (lv_at hl 3 rfl) ?_
      refine lv_iload hx hb dX2_record_99 (lv_at hl 1 rfl) ?_
      refine lv_bipush (v := 10) hx hb dX2_record_101 (by decide) ?_
      refine lv_idiv hx hb dX2_record_103 (by decide) ?_
      refine gx_top (y := nI ((i) / 10)) (gy_div (a := i) (b := 10) (by omega) (by decide)) ?_
      refine lv_iadd hx hb dX2_record_104 ?_
      refine gx_top (y := nI (((n * 17) + 13) + ((i) / 10))) (nI_add ((n * 17) + 13) ((i) / 10)) ?_
      refine lv_dup2_11 hx hb dX2_record_105 rfl rfl ?_
      refine gy_ild (i := (((n * 17) + 13) + ((i) / 10))) hx hb hK hP 3 rfl (by omega) (by omega) dX2_record_106 ?_
      refine gx_gen (fun z_8 => ?_)
      refine lv_iload hx hb dX2_record_107 (lv_at hl 0 rfl) ?_
      refine lv_iconst (v := 3) hx hb dX2_record_109 (by decide) ?_
      refine lv_iload hx hb dX2_record_110 (lv_at hl 1 rfl) ?_
      refine lv_bipush (v := 10) hx hb dX2_record_112 (by decide) ?_
      refine lv_irem hx hb dX2_record_114 (by decide) ?_
      refine gx_top (y := nI ((i) % 10)) (gy_rem (a := i) (b := 10) (by omega) (by decide)) ?_
      refine lv_imul hx hb dX2_record_115 ?_
      refine gx_top (y := nI (3 * ((i) % 10))) (pk_mul 3 ((i) % 10)) ?_
      refine lv_ishl hx hb dX2_record_116 ?_
      refine gx_gen (fun z_9 => ?_)
      refine lv_ior hx hb dX2_record_117 ?_
      refine gx_gen (fun z_10 => ?_)
      refine gy_ist (i := (((n * 17) + 13) + ((i) / 10))) hx hb hK hP hD hS 3 rfl (by omega) (by omega) dX2_record_118 (fun H locs hP hD hS => ?_)
      have hP : va_P D vwCl [(h0, .inr (2, [v0, v1, v2, v3, .ref a4])), (a2, .inl (cI, 3000, .inl ef)), (a7, .inl (cI, rl, .inl rf)), (a4, .inl (cI, rr, .inl (upd rec (((n * 17) + 13) + ((i) / 10)) z_10))), (x0, .inr (1, [w0, w1, .ref a2, .ref a3, w4, w5, .int (nI wd), .ref a7, w8, .ref a9])), (a3, .inl (cI, 38, .inl e_3)), (a9, .inl (cI, 3000, .inl cm))] H := hP
      have hD : va_D A [(h0, .inr (2, [v0, v1, v2, v3, .ref a4])), (a2, .inl (cI, 3000, .inl ef)), (a7, .inl (cI, rl, .inl rf)), (a4, .inl (cI, rr, .inl (upd rec (((n * 17) + 13) + ((i) / 10)) z_10))), (x0, .inr (1, [w0, w1, .ref a2, .ref a3, w4, w5, .int (nI wd), .ref a7, w8, .ref a9])), (a3, .inl (cI, 38, .inl e_3)), (a9, .inl (cI, 3000, .inl cm))] := hD
      refine lv_iinc (v := nI (i + 1)) (lv' := [(6, .int (nI (i + 1))), (7, .int z_7), (5, .int (nI t)), (4, .int (nI ((n * 17) + 13))), (3, .int (nI q)), (0, .ref h0), (1, .ref x0), (2, .int (nI n))]) hx hb dX2_record_119 hl (k := 1) rfl (nI_add i 1) (by decide) rfl (fun ls hl => ?_)
      refine lv_goto (tgt := 75) hx hb dX2_record_122 (by decide) ?_
      exact ih75 ((i + 1), (upd rec (((n * 17) + 13) + ((i) / 10)) z_10)) H locs ls ⟨(by show (i + 1) ≤ t; omega), hP, hD, hS, lv_sub hl [0, 2, 3, 4, 5, 6, 7] rfl⟩ (by show t - (i + 1) < t - i; omega)
  · refine lv_aload_n hx hb dX2_record_17 rfl (lv_at hl 2 rfl) ?_
    refine va_get (D := D) (ci := 2) (v := .ref a4) (C := RX2) (T := TX2) (N := 5) hx hb hts (fun _ h => List.mem_cons_of_mem _ (List.mem_append_left _ (List.mem_append_right _ h))) hown hK hP 0 rfl rfl 4 (by decide) (hts (.fieldLink RX2 11 "LitmusHall$Findings" "records" "[I") (by decide +kernel)) (fun _ h9 => h9) rfl dX2_record_18 ?_
    refine lv_iload_n hx hb dX2_record_21 rfl (lv_at hl 4 rfl) ?_
    refine lv_bipush (v := 17) hx hb dX2_record_22 (by decide) ?_
    refine lv_imul hx hb dX2_record_24 ?_
    refine gx_top (y := nI (n * 17)) (pk_mul n 17) ?_
    refine lv_iload hx hb dX2_record_25 (lv_at hl 0 rfl) ?_
    refine lv_iadd hx hb dX2_record_27 ?_
    refine gx_top (y := nI ((n * 17) + i)) (nI_add (n * 17) i) ?_
    refine lv_aload_n hx hb dX2_record_28 rfl (lv_at hl 3 rfl) ?_
    refine lv_iload_n hx hb dX2_record_29 rfl (lv_at hl 1 rfl) ?_
    refine lv_iload hx hb dX2_record_30 (lv_at hl 0 rfl) ?_
    refine gx_goi (wc := [(x0, .inr (1, [w0, w1, .ref a2, .ref a3, w4, w5, .int (nI wd), .ref a7, w8, .ref a9])), (a7, .inl (cI, rl, .inl rf))]) (wr := [(h0, .inr (2, [v0, v1, v2, v3, .ref a4])), (a4, .inl (cI, rr, .inl rec)), (a2, .inl (cI, 3000, .inl ef)), (a3, .inl (cI, 38, .inl pf)), (a9, .inl (cI, 3000, .inl cm))]) (va_runV (As := [.int (nI q), .int (nI i)]) (rest := [.int (nI ((n * 17) + i)), .ref a4]) ⟨hx, hb, hml, hown, hts⟩ (c_xInt l D cI cB cZ x0 a7 (w0) (w1) (.ref a2) (.ref a3) (w4) (w5) (w8) (.ref a9) wd rl rf q i (by omega) (by omega) (by omega) (by omega) (by omega) _) (cwV 2 hts gP_c_record__c_xInt rfl rfl rfl (by decide +kernel) ⟨Nat.le_of_ble_eq_true rfl, Nat.le_of_ble_eq_true rfl⟩) (gx_preV (ci := 1) (q0 := 0) hK gN.nil hP hD [2, 5] rfl rfl rfl rfl) rfl rfl hl.1 rfl (lv_room (Nat.le_of_ble_eq_true rfl)) dX2_record_32 ⟨Nat.le_of_ble_eq_true rfl, Nat.le_of_ble_eq_true rfl⟩) hP hD hS hA [2, 5] [0, 1, 3, 4, 6] rfl rfl rfl (by decide) (fun r1 w1 H locs hp hP hD hS => ?_)
    obtain ⟨e_11, h9, rfl⟩ := hp
    have h9 := h9.symm
    subst h9
    refine gy_ist (i := ((n * 17) + i)) hx hb hK hP hD hS 1 rfl (by omega) (by omega) dX2_record_35 (fun H locs hP hD hS => ?_)
    have hP : va_P D vwCl [(h0, .inr (2, [v0, v1, v2, v3, .ref a4])), (a4, .inl (cI, rr, .inl (upd rec ((n * 17) + i) e_11))), (a2, .inl (cI, 3000, .inl ef)), (a3, .inl (cI, 38, .inl pf)), (a9, .inl (cI, 3000, .inl cm)), (x0, .inr (1, [w0, w1, .ref a2, .ref a3, w4, w5, .int (nI wd), .ref a7, w8, .ref a9])), (a7, .inl (cI, rl, .inl rf))] H := hP
    have hD : va_D A [(h0, .inr (2, [v0, v1, v2, v3, .ref a4])), (a4, .inl (cI, rr, .inl (upd rec ((n * 17) + i) e_11))), (a2, .inl (cI, 3000, .inl ef)), (a3, .inl (cI, 38, .inl pf)), (a9, .inl (cI, 3000, .inl cm)), (x0, .inr (1, [w0, w1, .ref a2, .ref a3, w4, w5, .int (nI wd), .ref a7, w8, .ref a9])), (a7, .inl (cI, rl, .inl rf))] := hD
    refine lv_iinc (v := nI (i + 1)) (lv' := [(4, .int (nI (i + 1))), (3, .int (nI q)), (0, .ref h0), (1, .ref x0), (2, .int (nI n))]) hx hb dX2_record_36 hl (k := 0) rfl (nI_add i 1) (by decide) rfl (fun ls hl => ?_)
    refine lv_goto (tgt := 10) hx hb dX2_record_39 (by decide) ?_
    have hP := hP.sub (ws' := [(h0, .inr (2, [v0, v1, v2, v3, .ref a4])), (a4, .inl (cI, rr, .inl (upd rec ((n * 17) + i) e_11))), (x0, .inr (1, [w0, w1, .ref a2, .ref a3, w4, w5, .int (nI wd), .ref a7, w8, .ref a9])), (a2, .inl (cI, 3000, .inl ef)), (a3, .inl (cI, 38, .inl pf)), (a7, .inl (cI, rl, .inl rf)), (a9, .inl (cI, 3000, .inl cm))]) [0, 1, 5, 2, 3, 6, 4] rfl
    have hD := hD.sub (ws' := [(h0, .inr (2, [v0, v1, v2, v3, .ref a4])), (a4, .inl (cI, rr, .inl (upd rec ((n * 17) + i) e_11))), (x0, .inr (1, [w0, w1, .ref a2, .ref a3, w4, w5, .int (nI wd), .ref a7, w8, .ref a9])), (a2, .inl (cI, 3000, .inl ef)), (a3, .inl (cI, 38, .inl pf)), (a7, .inl (cI, rl, .inl rf)), (a9, .inl (cI, 3000, .inl cm))]) [0, 1, 5, 2, 3, 6, 4] (by decide) rfl
    exact ih10 ((i + 1), (upd rec ((n * 17) + i) e_11)) H locs ls ⟨(by show (i + 1) ≤ 13; omega), hP, hD, hS, lv_sub hl [0, 1, 2, 3, 4] rfl⟩ (by show 13 - (i + 1) < 13 - i; omega)
