theorem dX7_lock_0 : decode cX7_lock 0 = .ok (.aload_n 1, 1) := by decide +kernel
theorem dX7_lock_1 : decode cX7_lock 1 = .ok (.iload_n 2, 1) := by decide +kernel
theorem dX7_lock_10 : decode cX7_lock 10 = .ok (.iload_n 2, 1) := by decide +kernel
theorem dX7_lock_102 : decode cX7_lock 102 = .ok (.aload_n 0, 1) := by decide +kernel
theorem dX7_lock_103 : decode cX7_lock 103 = .ok (.getfield 11, 3) := by decide +kernel
theorem dX7_lock_106 : decode cX7_lock 106 = .ok (.iload 5, 2) := by decide +kernel
theorem dX7_lock_108 : decode cX7_lock 108 = .ok (.iload 9, 2) := by decide +kernel
theorem dX7_lock_11 : decode cX7_lock 11 = .ok (.iconst 1, 1) := by decide +kernel
theorem dX7_lock_110 : decode cX7_lock 110 = .ok (.iload 7, 2) := by decide +kernel
theorem dX7_lock_112 : decode cX7_lock 112 = .ok (.iadd, 1) := by decide +kernel
theorem dX7_lock_113 : decode cX7_lock 113 = .ok (.iastore, 1) := by decide +kernel
theorem dX7_lock_114 : decode cX7_lock 114 = .ok (.goto 19, 3) := by decide +kernel
theorem dX7_lock_117 : decode cX7_lock 117 = .ok (.iload 9, 2) := by decide +kernel
theorem dX7_lock_119 : decode cX7_lock 119 = .ok (.iload 7, 2) := by decide +kernel
theorem dX7_lock_12 : decode cX7_lock 12 = .ok (.iadd, 1) := by decide +kernel
theorem dX7_lock_121 : decode cX7_lock 121 = .ok (.if_icmp .ne 12, 3) := by decide +kernel
theorem dX7_lock_124 : decode cX7_lock 124 = .ok (.aload_n 0, 1) := by decide +kernel
theorem dX7_lock_125 : decode cX7_lock 125 = .ok (.getfield 11, 3) := by decide +kernel
theorem dX7_lock_128 : decode cX7_lock 128 = .ok (.iload 5, 2) := by decide +kernel
theorem dX7_lock_13 : decode cX7_lock 13 = .ok (.iaload, 1) := by decide +kernel
theorem dX7_lock_130 : decode cX7_lock 130 = .ok (.iload 8, 2) := by decide +kernel
theorem dX7_lock_132 : decode cX7_lock 132 = .ok (.iastore, 1) := by decide +kernel
theorem dX7_lock_133 : decode cX7_lock 133 = .ok (.return_, 1) := by decide +kernel
theorem dX7_lock_14 : decode cX7_lock 14 = .ok (.iadd, 1) := by decide +kernel
theorem dX7_lock_15 : decode cX7_lock 15 = .ok (.istore 5, 2) := by decide +kernel
theorem dX7_lock_17 : decode cX7_lock 17 = .ok (.iload_n 3, 1) := by decide +kernel
theorem dX7_lock_18 : decode cX7_lock 18 = .ok (.iconst 3, 1) := by decide +kernel
theorem dX7_lock_19 : decode cX7_lock 19 = .ok (.imul, 1) := by decide +kernel
theorem dX7_lock_2 : decode cX7_lock 2 = .ok (.iconst 0, 1) := by decide +kernel
theorem dX7_lock_20 : decode cX7_lock 20 = .ok (.aload_n 1, 1) := by decide +kernel
theorem dX7_lock_21 : decode cX7_lock 21 = .ok (.iload_n 2, 1) := by decide +kernel
theorem dX7_lock_22 : decode cX7_lock 22 = .ok (.iconst 2, 1) := by decide +kernel
theorem dX7_lock_23 : decode cX7_lock 23 = .ok (.iadd, 1) := by decide +kernel
theorem dX7_lock_24 : decode cX7_lock 24 = .ok (.iaload, 1) := by decide +kernel
theorem dX7_lock_25 : decode cX7_lock 25 = .ok (.iadd, 1) := by decide +kernel
theorem dX7_lock_26 : decode cX7_lock 26 = .ok (.istore 6, 2) := by decide +kernel
theorem dX7_lock_28 : decode cX7_lock 28 = .ok (.aload_n 0, 1) := by decide +kernel
theorem dX7_lock_29 : decode cX7_lock 29 = .ok (.aload_n 1, 1) := by decide +kernel
theorem dX7_lock_3 : decode cX7_lock 3 = .ok (.iadd, 1) := by decide +kernel
theorem dX7_lock_30 : decode cX7_lock 30 = .ok (.iload_n 2, 1) := by decide +kernel
theorem dX7_lock_31 : decode cX7_lock 31 = .ok (.iconst 3, 1) := by decide +kernel
theorem dX7_lock_32 : decode cX7_lock 32 = .ok (.iadd, 1) := by decide +kernel
theorem dX7_lock_33 : decode cX7_lock 33 = .ok (.iload_n 3, 1) := by decide +kernel
theorem dX7_lock_34 : decode cX7_lock 34 = .ok (.invokevirtual 71, 3) := by decide +kernel
theorem dX7_lock_37 : decode cX7_lock 37 = .ok (.istore 7, 2) := by decide +kernel
theorem dX7_lock_39 : decode cX7_lock 39 = .ok (.aload_n 0, 1) := by decide +kernel
theorem dX7_lock_4 : decode cX7_lock 4 = .ok (.iaload, 1) := by decide +kernel
theorem dX7_lock_40 : decode cX7_lock 40 = .ok (.aload_n 1, 1) := by decide +kernel
theorem dX7_lock_41 : decode cX7_lock 41 = .ok (.iload_n 2, 1) := by decide +kernel
theorem dX7_lock_42 : decode cX7_lock 42 = .ok (.iconst 5, 1) := by decide +kernel
theorem dX7_lock_43 : decode cX7_lock 43 = .ok (.iadd, 1) := by decide +kernel
theorem dX7_lock_44 : decode cX7_lock 44 = .ok (.iload_n 3, 1) := by decide +kernel
theorem dX7_lock_45 : decode cX7_lock 45 = .ok (.invokevirtual 71, 3) := by decide +kernel
theorem dX7_lock_48 : decode cX7_lock 48 = .ok (.istore 8, 2) := by decide +kernel
theorem dX7_lock_5 : decode cX7_lock 5 = .ok (.istore 4, 2) := by decide +kernel
theorem dX7_lock_50 : decode cX7_lock 50 = .ok (.aload_n 0, 1) := by decide +kernel
theorem dX7_lock_51 : decode cX7_lock 51 = .ok (.getfield 11, 3) := by decide +kernel
theorem dX7_lock_54 : decode cX7_lock 54 = .ok (.iload 5, 2) := by decide +kernel
theorem dX7_lock_56 : decode cX7_lock 56 = .ok (.iaload, 1) := by decide +kernel
theorem dX7_lock_57 : decode cX7_lock 57 = .ok (.istore 9, 2) := by decide +kernel
theorem dX7_lock_59 : decode cX7_lock 59 = .ok (.aload_n 0, 1) := by decide +kernel
theorem dX7_lock_60 : decode cX7_lock 60 = .ok (.getfield 11, 3) := by decide +kernel
theorem dX7_lock_63 : decode cX7_lock 63 = .ok (.iload 6, 2) := by decide +kernel
theorem dX7_lock_65 : decode cX7_lock 65 = .ok (.iaload, 1) := by decide +kernel
theorem dX7_lock_66 : decode cX7_lock 66 = .ok (.istore 10, 2) := by decide +kernel
theorem dX7_lock_68 : decode cX7_lock 68 = .ok (.aload_n 0, 1) := by decide +kernel
theorem dX7_lock_69 : decode cX7_lock 69 = .ok (.getfield 11, 3) := by decide +kernel
theorem dX7_lock_7 : decode cX7_lock 7 = .ok (.bipush 9, 2) := by decide +kernel
theorem dX7_lock_72 : decode cX7_lock 72 = .ok (.iload 6, 2) := by decide +kernel
theorem dX7_lock_74 : decode cX7_lock 74 = .ok (.iload 9, 2) := by decide +kernel
theorem dX7_lock_76 : decode cX7_lock 76 = .ok (.iastore, 1) := by decide +kernel
theorem dX7_lock_77 : decode cX7_lock 77 = .ok (.iload 4, 2) := by decide +kernel
theorem dX7_lock_79 : decode cX7_lock 79 = .ok (.iconst 5, 1) := by decide +kernel
theorem dX7_lock_80 : decode cX7_lock 80 = .ok (.if_icmp .ne 15, 3) := by decide +kernel
theorem dX7_lock_83 : decode cX7_lock 83 = .ok (.aload_n 0, 1) := by decide +kernel
theorem dX7_lock_84 : decode cX7_lock 84 = .ok (.getfield 11, 3) := by decide +kernel
theorem dX7_lock_87 : decode cX7_lock 87 = .ok (.iload 5, 2) := by decide +kernel
theorem dX7_lock_89 : decode cX7_lock 89 = .ok (.iload 10, 2) := by decide +kernel
theorem dX7_lock_9 : decode cX7_lock 9 = .ok (.aload_n 1, 1) := by decide +kernel
theorem dX7_lock_91 : decode cX7_lock 91 = .ok (.iastore, 1) := by decide +kernel
theorem dX7_lock_92 : decode cX7_lock 92 = .ok (.goto 41, 3) := by decide +kernel
theorem dX7_lock_95 : decode cX7_lock 95 = .ok (.iload 4, 2) := by decide +kernel
theorem dX7_lock_97 : decode cX7_lock 97 = .ok (.bipush 6, 2) := by decide +kernel
theorem dX7_lock_99 : decode cX7_lock 99 = .ok (.if_icmp .ne 18, 3) := by decide +kernel
def wsP_c_lock : List Cond := .code yX7_lock cX7_lock 11 none :: ([.methodLink RX7 71 yX7_valueOf, .instanceMethod yX7_valueOf, .selects RX7 yX7_valueOf yX7_valueOf, .initialized RX7, .fieldLink RX7 11 "LitmusHall$State" "words" "[I", .code yX7_valueOf cX7_valueOf 5 (some .int)] ++ wsX70)
set_option maxRecDepth 20000 in
theorem gP_c_lock__c_valueOf : GoodIn wsP_c_lock (wsV RX7 71 RX7 yX7_valueOf wsP_c_valueOf) := goodIn_r _ [1, 2, 3, 4, 6, 5, 7] (by decide +kernel) (by decide +kernel)
set_option maxHeartbeats 4000000 in
set_option maxRecDepth 100000 in
theorem c_lock (l : Launch) (D : va_G) (cI cB cZ : ClassId) (h0 : Nat) (a1 : Nat) (f : Nat → Int32) (b3 : Nat) (pf : Nat → Int32) (n : Nat) (k : Nat) (x : Nat) (r : Nat) (hn : n + 8 ≤ 192) (hk : k < 3) (hx0 : x < 4) (hr0 : r < 3) (hcell : pf (n + 1) = nI x) (hrg : pf (n + 2) = nI r) (h3 : pf (n + 3) = (-1) ∨ ∃ r, r < 3 ∧ pf (n + 3) = nI r) (h5 : pf (n + 5) = (-1) ∨ ∃ r, r < 3 ∧ pf (n + 5) = nI r) (hW : gOkW f) : gMv l yX7_lock wsP_c_lock ({ frames := 1, cells := 0, slots := 0, locals := 24 }) D cI cB cZ [] [.ref h0, .ref b3, .int (nI n), .int (nI k)] [(h0, .inr (7, [.ref a1])), (a1, .inl (cI, 34, .inl f)), (b3, .inl (cI, 192, .inl pf))] (fun w9 => ∃ g : Nat → Int32, (gOkW g) ∧ w9 = [(h0, .inr (7, [.ref a1])), (a1, .inl (cI, 34, .inl g)), (b3, .inl (cI, 192, .inl pf))]) := by
  refine gMv.of (cc := cX7_lock) (maxL := 11) (ret := none) (by decide) rfl (Nat.le_of_ble_eq_true rfl) (fun p e s m below meth c A ls hx hb hr hlk hml hts hown hin hA hP hK hD hS hN hl => ?_)
  have hown : s.vm.findClass RX7 = some m.cls := hown
  have hl : lv_has ls 11 [(0, .ref h0), (1, .ref b3), (2, .int (nI n)), (3, .int (nI k))] := hl
  refine lv_aload_n hx hb dX7_lock_0 rfl (lv_at hl 1 rfl) ?_
  refine lv_iload_n hx hb dX7_lock_1 rfl (lv_at hl 2 rfl) ?_
  refine lv_iconst (v := 0) hx hb dX7_lock_2 (by decide) ?_
  refine lv_iadd hx hb dX7_lock_3 ?_
  refine gx_top (y := nI (n + 0)) (nI_add n 0) ?_
  refine gy_ild (i := (n + 0)) hx hb hK hP 2 rfl (by omega) (by omega) dX7_lock_4 ?_
  refine lv_istore (lv' := [(4, .int (pf (n + 0))), (0, .ref h0), (1, .ref b3), (2, .int (nI n)), (3, .int (nI k))]) hx hb dX7_lock_5 hl (by decide) rfl (fun ls hl => ?_)
  refine lv_bipush (v := 9) hx hb dX7_lock_7 (by decide) ?_
  refine lv_aload_n hx hb dX7_lock_9 rfl (lv_at hl 2 rfl) ?_
  refine lv_iload_n hx hb dX7_lock_10 rfl (lv_at hl 3 rfl) ?_
  refine lv_iconst (v := 1) hx hb dX7_lock_11 (by decide) ?_
  refine lv_iadd hx hb dX7_lock_12 ?_
  refine gx_top (y := nI (n + 1)) (nI_add n 1) ?_
  refine gy_ild (i := (n + 1)) hx hb hK hP 2 rfl (by omega) (by omega) dX7_lock_13 ?_
  refine gx_top (y := nI x) hcell ?_
  refine lv_iadd hx hb dX7_lock_14 ?_
  refine gx_top (y := nI (9 + x)) (nI_add 9 x) ?_
  refine lv_istore (lv' := [(5, .int (nI (9 + x))), (4, .int (pf (n + 0))), (0, .ref h0), (1, .ref b3), (2, .int (nI n)), (3, .int (nI k))]) hx hb dX7_lock_15 hl (by decide) rfl (fun ls hl => ?_)
  refine lv_iload_n hx hb dX7_lock_17 rfl (lv_at hl 5 rfl) ?_
  refine lv_iconst (v := 3) hx hb dX7_lock_18 (by decide) ?_
  refine lv_imul hx hb dX7_lock_19 ?_
  refine gx_top (y := nI (k * 3)) (pk_mul k 3) ?_
  refine lv_aload_n hx hb dX7_lock_20 rfl (lv_at hl 3 rfl) ?_
  refine lv_iload_n hx hb dX7_lock_21 rfl (lv_at hl 4 rfl) ?_
  refine lv_iconst (v := 2) hx hb dX7_lock_22 (by decide) ?_
  refine lv_iadd hx hb dX7_lock_23 ?_
  refine gx_top (y := nI (n + 2)) (nI_add n 2) ?_
  refine gy_ild (i := (n + 2)) hx hb hK hP 2 rfl (by omega) (by omega) dX7_lock_24 ?_
  refine gx_top (y := nI r) hrg ?_
  refine lv_iadd hx hb dX7_lock_25 ?_
  refine gx_top (y := nI ((k * 3) + r)) (nI_add (k * 3) r) ?_
  refine lv_istore (lv' := [(6, .int (nI ((k * 3) + r))), (5, .int (nI (9 + x))), (4, .int (pf (n + 0))), (0, .ref h0), (1, .ref b3), (2, .int (nI n)), (3, .int (nI k))]) hx hb dX7_lock_26 hl (by decide) rfl (fun ls hl => ?_)
  refine lv_aload_n hx hb dX7_lock_28 rfl (lv_at hl 3 rfl) ?_
  refine lv_aload_n hx hb dX7_lock_29 rfl (lv_at hl 4 rfl) ?_
  refine lv_iload_n hx hb dX7_lock_30 rfl (lv_at hl 5 rfl) ?_
  refine lv_iconst (v := 3) hx hb dX7_lock_31 (by decide) ?_
  refine lv_iadd hx hb dX7_lock_32 ?_
  refine gx_top (y := nI (n + 3)) (nI_add n 3) ?_
  refine lv_iload_n hx hb dX7_lock_33 rfl (lv_at hl 6 rfl) ?_
  refine gx_goi (wc := [(h0, .inr (7, [.ref a1])), (a1, .inl (cI, 34, .inl f)), (b3, .inl (cI, 192, .inl pf))]) (wr := []) (va_runV (As := [.ref b3, .int (nI (n + 3)), .int (nI k)]) (rest := []) ⟨hx, hb, hml, hown, hts⟩ (c_valueOf l D cI cB cZ h0 a1 f b3 pf (n + 3) k (by omega) (by omega) h3 _) (cwV 3 hts gP_c_lock__c_valueOf rfl rfl rfl (by decide +kernel) ⟨Nat.le_of_ble_eq_true rfl, Nat.le_of_ble_eq_true rfl⟩) (gx_preV (ci := 7) (q0 := 0) hK gN.nil hP hD [0, 1, 2] rfl rfl rfl rfl) rfl rfl hl.1 rfl (lv_room (Nat.le_of_ble_eq_true rfl)) dX7_lock_34 ⟨Nat.le_of_ble_eq_true rfl, Nat.le_of_ble_eq_true rfl⟩) hP hD hS hA [0, 1, 2] [] rfl rfl rfl (by decide) (fun r1 w1 H locs hp hP hD hS => ?_)
  obtain ⟨e_1, h9, rfl⟩ := hp
  have h9 := h9.symm
  subst h9
  have hP : va_P D vwCl [(h0, .inr (7, [.ref a1])), (a1, .inl (cI, 34, .inl f)), (b3, .inl (cI, 192, .inl pf))] H := hP
  have hD : va_D A [(h0, .inr (7, [.ref a1])), (a1, .inl (cI, 34, .inl f)), (b3, .inl (cI, 192, .inl pf))] := hD
  refine lv_istore (lv' := [(7, .int e_1), (6, .int (nI ((k * 3) + r))), (5, .int (nI (9 + x))), (4, .int (pf (n + 0))), (0, .ref h0), (1, .ref b3), (2, .int (nI n)), (3, .int (nI k))]) hx hb dX7_lock_37 hl (by decide) rfl (fun ls hl => ?_)
  refine lv_aload_n hx hb dX7_lock_39 rfl (lv_at hl 4 rfl) ?_
  refine lv_aload_n hx hb dX7_lock_40 rfl (lv_at hl 5 rfl) ?_
  refine lv_iload_n hx hb dX7_lock_41 rfl (lv_at hl 6 rfl) ?_
  refine lv_iconst (v := 5) hx hb dX7_lock_42 (by decide) ?_
  refine lv_iadd hx hb dX7_lock_43 ?_
  refine gx_top (y := nI (n + 5)) (nI_add n 5) ?_
  refine lv_iload_n hx hb dX7_lock_44 rfl (lv_at hl 7 rfl) ?_
  refine gx_goi (wc := [(h0, .inr (7, [.ref a1])), (a1, .inl (cI, 34, .inl f)), (b3, .inl (cI, 192, .inl pf))]) (wr := []) (va_runV (As := [.ref b3, .int (nI (n + 5)), .int (nI k)]) (rest := []) ⟨hx, hb, hml, hown, hts⟩ (c_valueOf l D cI cB cZ h0 a1 f b3 pf (n + 5) k (by omega) (by omega) h5 _) (cwV 3 hts gP_c_lock__c_valueOf rfl rfl rfl (by decide +kernel) ⟨Nat.le_of_ble_eq_true rfl, Nat.le_of_ble_eq_true rfl⟩) (gx_preV (ci := 7) (q0 := 0) hK gN.nil hP hD [0, 1, 2] rfl rfl rfl rfl) rfl rfl hl.1 rfl (lv_room (Nat.le_of_ble_eq_true rfl)) dX7_lock_45 ⟨Nat.le_of_ble_eq_true rfl, Nat.le_of_ble_eq_true rfl⟩) hP hD hS hA [0, 1, 2] [] rfl rfl rfl (by decide) (fun r1 w1 H locs hp hP hD hS => ?_)
  obtain ⟨e_2, h9, rfl⟩ := hp
  have h9 := h9.symm
  subst h9
  have hP : va_P D vwCl [(h0, .inr (7, [.ref a1])), (a1, .inl (cI, 34, .inl f)), (b3, .inl (cI, 192, .inl pf))] H := hP
  have hD : va_D A [(h0, .inr (7, [.ref a1])), (a1, .inl (cI, 34, .inl f)), (b3, .inl (cI, 192, .inl pf))] := hD
  refine lv_istore (lv' := [(8, .int e_2), (7, .int e_1), (6, .int (nI ((k * 3) + r))), (5, .int (nI (9 + x))), (4, .int (pf (n + 0))), (0, .ref h0), (1, .ref b3), (2, .int (nI n)), (3, .int (nI k))]) hx hb dX7_lock_48 hl (by decide) rfl (fun ls hl => ?_)
  refine lv_aload_n hx hb dX7_lock_50 rfl (lv_at hl 5 rfl) ?_
  refine va_get (D := D) (ci := 7) (v := .ref a1) (C := RX7) (T := TX7) (N := 1) hx hb hts (fun _ h => List.mem_cons_of_mem _ (List.mem_append_right _ h)) hown hK hP 0 rfl rfl 0 (by decide) (hts (.fieldLink RX7 11 "LitmusHall$State" "words" "[I") (by decide +kernel)) (fun _ h9 => h9) rfl dX7_lock_51 ?_
  refine lv_iload hx hb dX7_lock_54 (lv_at hl 3 rfl) ?_
  refine gy_ild (i := (9 + x)) hx hb hK hP 1 rfl (by omega) (by omega) dX7_lock_56 ?_
  refine lv_istore (lv' := [(9, .int (f (9 + x))), (8, .int e_2), (7, .int e_1), (6, .int (nI ((k * 3) + r))), (5, .int (nI (9 + x))), (4, .int (pf (n + 0))), (0, .ref h0), (1, .ref b3), (2, .int (nI n)), (3, .int (nI k))]) hx hb dX7_lock_57 hl (by decide) rfl (fun ls hl => ?_)
  refine lv_aload_n hx hb dX7_lock_59 rfl (lv_at hl 6 rfl) ?_
  refine va_get (D := D) (ci := 7) (v := .ref a1) (C := RX7) (T := TX7) (N := 1) hx hb hts (fun _ h => List.mem_cons_of_mem _ (List.mem_append_right _ h)) hown hK hP 0 rfl rfl 0 (by decide) (hts (.fieldLink RX7 11 "LitmusHall$State" "words" "[I") (by decide +kernel)) (fun _ h9 => h9) rfl dX7_lock_60 ?_
  refine lv_iload hx hb dX7_lock_63 (lv_at hl 3 rfl) ?_
  refine gy_ild (i := ((k * 3) + r)) hx hb hK hP 1 rfl (by omega) (by omega) dX7_lock_65 ?_
  refine lv_istore (lv' := [(10, .int (f ((k * 3) + r))), (9, .int (f (9 + x))), (8, .int e_2), (7, .int e_1), (6, .int (nI ((k * 3) + r))), (5, .int (nI (9 + x))), (4, .int (pf (n + 0))), (0, .ref h0), (1, .ref b3), (2, .int (nI n)), (3, .int (nI k))]) hx hb dX7_lock_66 hl (by decide) rfl (fun ls hl => ?_)
  refine lv_aload_n hx hb dX7_lock_68 rfl (lv_at hl 7 rfl) ?_
  refine va_get (D := D) (ci := 7) (v := .ref a1) (C := RX7) (T := TX7) (N := 1) hx hb hts (fun _ h => List.mem_cons_of_mem _ (List.mem_append_right _ h)) hown hK hP 0 rfl rfl 0 (by decide) (hts (.fieldLink RX7 11 "LitmusHall$State" "words" "[I") (by decide +kernel)) (fun _ h9 => h9) rfl dX7_lock_69 ?_
  refine lv_iload hx hb dX7_lock_72 (lv_at hl 4 rfl) ?_
  refine lv_iload hx hb dX7_lock_74 (lv_at hl 1 rfl) ?_
  refine gy_ist (i := ((k * 3) + r)) hx hb hK hP hD hS 1 rfl (by omega) (by omega) dX7_lock_76 (fun H locs hP hD hS => ?_)
  have hP : va_P D vwCl [(h0, .inr (7, [.ref a1])), (a1, .inl (cI, 34, .inl (upd f ((k * 3) + r) (f (9 + x))))), (b3, .inl (cI, 192, .inl pf))] H := hP
  have hD : va_D A [(h0, .inr (7, [.ref a1])), (a1, .inl (cI, 34, .inl (upd f ((k * 3) + r) (f (9 + x))))), (b3, .inl (cI, 192, .inl pf))] := hD
  refine lv_iload hx hb dX7_lock_77 (lv_at hl 6 rfl) ?_
  refine lv_iconst (v := 5) hx hb dX7_lock_79 (by decide) ?_
  refine lv_icmp_ne (tgt := 95) hx hb dX7_lock_80 (by decide) (fun c_3 => ?_) (fun c_3 => ?_)
  · refine lv_iload hx hb dX7_lock_95 (lv_at hl 6 rfl) ?_
    refine lv_bipush (v := 6) hx hb dX7_lock_97 (by decide) ?_
    refine lv_icmp_ne (tgt := 117) hx hb dX7_lock_99 (by decide) (fun c_4 => ?_) (fun c_4 => ?_)
    · refine lv_iload hx hb dX7_lock_117 (lv_at hl 1 rfl) ?_
      refine lv_iload hx hb dX7_lock_119 (lv_at hl 3 rfl) ?_
      refine lv_icmp_ne (tgt := 133) hx hb dX7_lock_121 (by decide) (fun c_5 => ?_) (fun c_5 => ?_)
      · exact gx_vret (w' := [(h0, .inr (7, [.ref a1])), (a1, .inl (cI, 34, .inl (upd f ((k * 3) + r) (f (9 + x))))), (b3, .inl (cI, 192, .inl pf))]) hx hb hr hlk hK hP hD hS (Nat.le_of_ble_eq_true rfl) (Nat.le_of_ble_eq_true rfl) dX7_lock_133 ⟨(upd f ((k * 3) + r) (f (9 + x))), (gOkW_out hW (by omega)), rfl⟩
      · refine lv_aload_n hx hb dX7_lock_124 rfl (lv_at hl 7 rfl) ?_
        refine va_get (D := D) (ci := 7) (v := .ref a1) (C := RX7) (T := TX7) (N := 1) hx hb hts (fun _ h => List.mem_cons_of_mem _ (List.mem_append_right _ h)) hown hK hP 0 rfl rfl 0 (by decide) (hts (.fieldLink RX7 11 "LitmusHall$State" "words" "[I") (by decide +kernel)) (fun _ h9 => h9) rfl dX7_lock_125 ?_
        refine lv_iload hx hb dX7_lock_128 (lv_at hl 5 rfl) ?_
        refine lv_iload hx hb dX7_lock_130 (lv_at hl 2 rfl) ?_
        refine gy_ist (i := (9 + x)) hx hb hK hP hD hS 1 rfl (by omega) (by omega) dX7_lock_132 (fun H locs hP hD hS => ?_)
        have hP : va_P D vwCl [(h0, .inr (7, [.ref a1])), (a1, .inl (cI, 34, .inl (upd (upd f ((k * 3) + r) (f (9 + x))) (9 + x) e_2))), (b3, .inl (cI, 192, .inl pf))] H := hP
        have hD : va_D A [(h0, .inr (7, [.ref a1])), (a1, .inl (cI, 34, .inl (upd (upd f ((k * 3) + r) (f (9 + x))) (9 + x) e_2))), (b3, .inl (cI, 192, .inl pf))] := hD
        exact gx_vret (w' := [(h0, .inr (7, [.ref a1])), (a1, .inl (cI, 34, .inl (upd (upd f ((k * 3) + r) (f (9 + x))) (9 + x) e_2))), (b3, .inl (cI, 192, .inl pf))]) hx hb hr hlk hK hP hD hS (Nat.le_of_ble_eq_true rfl) (Nat.le_of_ble_eq_true rfl) dX7_lock_133 ⟨(upd (upd f ((k * 3) + r) (f (9 + x))) (9 + x) e_2), (gOkW_out (gOkW_out hW (by omega)) (by omega)), rfl⟩
    · refine lv_aload_n hx hb dX7_lock_102 rfl (lv_at hl 7 rfl) ?_
      refine va_get (D := D) (ci := 7) (v := .ref a1) (C := RX7) (T := TX7) (N := 1) hx hb hts (fun _ h => List.mem_cons_of_mem _ (List.mem_append_right _ h)) hown hK hP 0 rfl rfl 0 (by decide) (hts (.fieldLink RX7 11 "LitmusHall$State" "words" "[I") (by decide +kernel)) (fun _ h9 => h9) rfl dX7_lock_103 ?_
      refine lv_iload hx hb dX7_lock_106 (lv_at hl 5 rfl) ?_
      refine lv_iload hx hb dX7_lock_108 (lv_at hl 1 rfl) ?_
      refine lv_iload hx hb dX7_lock_110 (lv_at hl 3 rfl) ?_
      refine lv_iadd hx hb dX7_lock_112 ?_
      refine gy_ist (i := (9 + x)) hx hb hK hP hD hS 1 rfl (by omega) (by omega) dX7_lock_113 (fun H locs hP hD hS => ?_)
      have hP : va_P D vwCl [(h0, .inr (7, [.ref a1])), (a1, .inl (cI, 34, .inl (upd (upd f ((k * 3) + r) (f (9 + x))) (9 + x) ((f (9 + x)) + e_1)))), (b3, .inl (cI, 192, .inl pf))] H := hP
      have hD : va_D A [(h0, .inr (7, [.ref a1])), (a1, .inl (cI, 34, .inl (upd (upd f ((k * 3) + r) (f (9 + x))) (9 + x) ((f (9 + x)) + e_1)))), (b3, .inl (cI, 192, .inl pf))] := hD
      refine lv_goto (tgt := 133) hx hb dX7_lock_114 (by decide) ?_
      exact gx_vret (w' := [(h0, .inr (7, [.ref a1])), (a1, .inl (cI, 34, .inl (upd (upd f ((k * 3) + r) (f (9 + x))) (9 + x) ((f (9 + x)) + e_1)))), (b3, .inl (cI, 192, .inl pf))]) hx hb hr hlk hK hP hD hS (Nat.le_of_ble_eq_true rfl) (Nat.le_of_ble_eq_true rfl) dX7_lock_133 ⟨(upd (upd f ((k * 3) + r) (f (9 + x))) (9 + x) ((f (9 + x)) + e_1)), (gOkW_out (gOkW_out hW (by omega)) (by omega)), rfl⟩
  · refine lv_aload_n hx hb dX7_lock_83 rfl (lv_at hl 7 rfl) ?_
    refine va_get (D := D) (ci := 7) (v := .ref a1) (C := RX7) (T := TX7) (N := 1) hx hb hts (fun _ h => List.mem_cons_of_mem _ (List.mem_append_right _ h)) hown hK hP 0 rfl rfl 0 (by decide) (hts (.fieldLink RX7 11 "LitmusHall$State" "words" "[I") (by decide +kernel)) (fun _ h9 => h9) rfl dX7_lock_84 ?_
    refine lv_iload hx hb dX7_lock_87 (lv_at hl 5 rfl) ?_
    refine lv_iload hx hb dX7_lock_89 (lv_at hl 0 rfl) ?_
    refine gy_ist (i := (9 + x)) hx hb hK hP hD hS 1 rfl (by omega) (by omega) dX7_lock_91 (fun H locs hP hD hS => ?_)
    have hP : va_P D vwCl [(h0, .inr (7, [.ref a1])), (a1, .inl (cI, 34, .inl (upd (upd f ((k * 3) + r) (f (9 + x))) (9 + x) (f ((k * 3) + r))))), (b3, .inl (cI, 192, .inl pf))] H := hP
    have hD : va_D A [(h0, .inr (7, [.ref a1])), (a1, .inl (cI, 34, .inl (upd (upd f ((k * 3) + r) (f (9 + x))) (9 + x) (f ((k * 3) + r))))), (b3, .inl (cI, 192, .inl pf))] := hD
    refine lv_goto (tgt := 133) hx hb dX7_lock_92 (by decide) ?_
    exact gx_vret (w' := [(h0, .inr (7, [.ref a1])), (a1, .inl (cI, 34, .inl (upd (upd f ((k * 3) + r) (f (9 + x))) (9 + x) (f ((k * 3) + r))))), (b3, .inl (cI, 192, .inl pf))]) hx hb hr hlk hK hP hD hS (Nat.le_of_ble_eq_true rfl) (Nat.le_of_ble_eq_true rfl) dX7_lock_133 ⟨(upd (upd f ((k * 3) + r) (f (9 + x))) (9 + x) (f ((k * 3) + r))), (gOkW_out (gOkW_out hW (by omega)) (by omega)), rfl⟩
