theorem dX6_scan_0 : decode cX6_scan 0 = .ok (.iconst 0, 1) := by decide +kernel
theorem dX6_scan_1 : decode cX6_scan 1 = .ok (.istore_n 3, 1) := by decide +kernel
theorem dX6_scan_10 : decode cX6_scan 10 = .ok (.if_icmp .gt 107, 3) := by decide +kernel
theorem dX6_scan_100 : decode cX6_scan 100 = .ok (.invokestatic 71, 3) := by decide +kernel
theorem dX6_scan_103 : decode cX6_scan 103 = .ok (.goto 4, 3) := by decide +kernel
theorem dX6_scan_106 : decode cX6_scan 106 = .ok (.iconst (-1), 1) := by decide +kernel
theorem dX6_scan_107 : decode cX6_scan 107 = .ok (.iastore, 1) := by decide +kernel
theorem dX6_scan_108 : decode cX6_scan 108 = .ok (.iload 5, 2) := by decide +kernel
theorem dX6_scan_110 : decode cX6_scan 110 = .ok (.istore_n 3, 1) := by decide +kernel
theorem dX6_scan_111 : decode cX6_scan 111 = .ok (.iinc 4 1, 3) := by decide +kernel
theorem dX6_scan_114 : decode cX6_scan 114 = .ok (.goto (-109), 3) := by decide +kernel
theorem dX6_scan_117 : decode cX6_scan 117 = .ok (.return_, 1) := by decide +kernel
theorem dX6_scan_13 : decode cX6_scan 13 = .ok (.aload_n 1, 1) := by decide +kernel
theorem dX6_scan_14 : decode cX6_scan 14 = .ok (.iload_n 2, 1) := by decide +kernel
theorem dX6_scan_15 : decode cX6_scan 15 = .ok (.iload_n 3, 1) := by decide +kernel
theorem dX6_scan_16 : decode cX6_scan 16 = .ok (.invokestatic 61, 3) := by decide +kernel
theorem dX6_scan_19 : decode cX6_scan 19 = .ok (.istore_n 3, 1) := by decide +kernel
theorem dX6_scan_2 : decode cX6_scan 2 = .ok (.iconst 0, 1) := by decide +kernel
theorem dX6_scan_20 : decode cX6_scan 20 = .ok (.aload_n 0, 1) := by decide +kernel
theorem dX6_scan_21 : decode cX6_scan 21 = .ok (.getfield 26, 3) := by decide +kernel
theorem dX6_scan_24 : decode cX6_scan 24 = .ok (.iload 4, 2) := by decide +kernel
theorem dX6_scan_26 : decode cX6_scan 26 = .ok (.iload_n 3, 1) := by decide +kernel
theorem dX6_scan_27 : decode cX6_scan 27 = .ok (.iastore, 1) := by decide +kernel
theorem dX6_scan_28 : decode cX6_scan 28 = .ok (.iload_n 3, 1) := by decide +kernel
theorem dX6_scan_29 : decode cX6_scan 29 = .ok (.iload_n 2, 1) := by decide +kernel
theorem dX6_scan_3 : decode cX6_scan 3 = .ok (.istore 4, 2) := by decide +kernel
theorem dX6_scan_30 : decode cX6_scan 30 = .ok (.if_icmp .lt 13, 3) := by decide +kernel
theorem dX6_scan_33 : decode cX6_scan 33 = .ok (.aload_n 0, 1) := by decide +kernel
theorem dX6_scan_34 : decode cX6_scan 34 = .ok (.getfield 22, 3) := by decide +kernel
theorem dX6_scan_37 : decode cX6_scan 37 = .ok (.iload 4, 2) := by decide +kernel
theorem dX6_scan_39 : decode cX6_scan 39 = .ok (.bipush 21, 2) := by decide +kernel
theorem dX6_scan_41 : decode cX6_scan 41 = .ok (.iastore, 1) := by decide +kernel
theorem dX6_scan_42 : decode cX6_scan 42 = .ok (.return_, 1) := by decide +kernel
theorem dX6_scan_43 : decode cX6_scan 43 = .ok (.aload_n 1, 1) := by decide +kernel
theorem dX6_scan_44 : decode cX6_scan 44 = .ok (.iload_n 2, 1) := by decide +kernel
theorem dX6_scan_45 : decode cX6_scan 45 = .ok (.iload_n 3, 1) := by decide +kernel
theorem dX6_scan_46 : decode cX6_scan 46 = .ok (.invokestatic 65, 3) := by decide +kernel
theorem dX6_scan_49 : decode cX6_scan 49 = .ok (.istore 5, 2) := by decide +kernel
theorem dX6_scan_5 : decode cX6_scan 5 = .ok (.iload 4, 2) := by decide +kernel
theorem dX6_scan_51 : decode cX6_scan 51 = .ok (.aload_n 0, 1) := by decide +kernel
theorem dX6_scan_52 : decode cX6_scan 52 = .ok (.getfield 22, 3) := by decide +kernel
theorem dX6_scan_55 : decode cX6_scan 55 = .ok (.iload 4, 2) := by decide +kernel
theorem dX6_scan_57 : decode cX6_scan 57 = .ok (.aload_n 1, 1) := by decide +kernel
theorem dX6_scan_58 : decode cX6_scan 58 = .ok (.iload_n 3, 1) := by decide +kernel
theorem dX6_scan_59 : decode cX6_scan 59 = .ok (.iload 5, 2) := by decide +kernel
theorem dX6_scan_61 : decode cX6_scan 61 = .ok (.invokestatic 68, 3) := by decide +kernel
theorem dX6_scan_64 : decode cX6_scan 64 = .ok (.iastore, 1) := by decide +kernel
theorem dX6_scan_65 : decode cX6_scan 65 = .ok (.aload_n 0, 1) := by decide +kernel
theorem dX6_scan_66 : decode cX6_scan 66 = .ok (.getfield 22, 3) := by decide +kernel
theorem dX6_scan_69 : decode cX6_scan 69 = .ok (.iload 4, 2) := by decide +kernel
theorem dX6_scan_7 : decode cX6_scan 7 = .ok (.sipush 500, 3) := by decide +kernel
theorem dX6_scan_71 : decode cX6_scan 71 = .ok (.iaload, 1) := by decide +kernel
theorem dX6_scan_72 : decode cX6_scan 72 = .ok (.bipush 22, 2) := by decide +kernel
theorem dX6_scan_74 : decode cX6_scan 74 = .ok (.if_icmp .ne 4, 3) := by decide +kernel
theorem dX6_scan_77 : decode cX6_scan 77 = .ok (.return_, 1) := by decide +kernel
theorem dX6_scan_78 : decode cX6_scan 78 = .ok (.aload_n 0, 1) := by decide +kernel
theorem dX6_scan_79 : decode cX6_scan 79 = .ok (.getfield 29, 3) := by decide +kernel
theorem dX6_scan_82 : decode cX6_scan 82 = .ok (.iload 4, 2) := by decide +kernel
theorem dX6_scan_84 : decode cX6_scan 84 = .ok (.aload_n 0, 1) := by decide +kernel
theorem dX6_scan_85 : decode cX6_scan 85 = .ok (.getfield 22, 3) := by decide +kernel
theorem dX6_scan_88 : decode cX6_scan 88 = .ok (.iload 4, 2) := by decide +kernel
theorem dX6_scan_90 : decode cX6_scan 90 = .ok (.iaload, 1) := by decide +kernel
theorem dX6_scan_91 : decode cX6_scan 91 = .ok (.bipush 16, 2) := by decide +kernel
theorem dX6_scan_93 : decode cX6_scan 93 = .ok (.if_icmp .ne 13, 3) := by decide +kernel
theorem dX6_scan_96 : decode cX6_scan 96 = .ok (.aload_n 1, 1) := by decide +kernel
theorem dX6_scan_97 : decode cX6_scan 97 = .ok (.iload_n 3, 1) := by decide +kernel
theorem dX6_scan_98 : decode cX6_scan 98 = .ok (.iload 5, 2) := by decide +kernel
/-- what the scanner's rows hold -/
def gRdI (Kd : Nat → Nat) (nf sf : Nat → Int32) : Prop := (∀ t, t < 501 → Kd t ≤ 22) ∧ (∀ t, t < 501 → Kd t = 16 → ∃ m, m ≤ 999 ∧ nf t = nI m) ∧ ∀ t, t < 501 → ¬ sf t = (-1)
theorem gy_n1 {n : Nat} (h : n < 2 ^ 31) : ¬ nI n = (-1) := fun e => nI_pos h (by rw [e]; decide)
theorem gRdI_s {Kd : Nat → Nat} {nf sf : Nat → Int32} {n q fr : Nat} {v : Int32} (h : gRdI Kd nf sf) (hq : q ≤ 22) (hv : q = 16 → ∃ m, m ≤ 999 ∧ v = nI m) (hf : fr < 2 ^ 31) : gRdI (updN Kd n q) (upd nf n v) (upd sf n (nI fr)) := by
  refine ⟨fun t ht => ?_, fun t ht hk => ?_, fun t ht => ?_⟩
  · by_cases e : t = n
    · subst e; rw [updN_s]; exact hq
    · rw [updN_n e]; exact h.1 t ht
  · by_cases e : t = n
    · subst e; rw [updN_s] at hk; rw [pk_us]; exact hv hk
    · rw [updN_n e] at hk; rw [pk_un e]; exact h.2.1 t ht hk
  · by_cases e : t = n
    · subst e; rw [pk_us]; exact gy_n1 hf
    · rw [pk_un e]; exact h.2.2 t ht
theorem gRdI_k {Kd : Nat → Nat} {nf sf : Nat → Int32} {n q fr : Nat} (h : gRdI Kd nf sf) (hq : q ≤ 22) (hv : q ≠ 16) (hf : fr < 2 ^ 31) : gRdI (updN Kd n q) nf (upd sf n (nI fr)) := by
  refine ⟨fun t ht => ?_, fun t ht hk => ?_, fun t ht => ?_⟩
  · by_cases e : t = n
    · subst e; rw [updN_s]; exact hq
    · rw [updN_n e]; exact h.1 t ht
  · by_cases e : t = n
    · subst e; rw [updN_s] at hk; exact absurd hk hv
    · rw [updN_n e] at hk; exact h.2.1 t ht hk
  · by_cases e : t = n
    · subst e; rw [pk_us]; exact gy_n1 hf
    · rw [pk_un e]; exact h.2.2 t ht
theorem gW_c_behindBlanks : wsP_c_behindBlanks.all goodWord = true := by decide +kernel
theorem gW_c_behindRun : wsP_c_behindRun.all goodWord = true := by decide +kernel
theorem gW_c_numberOf : wsP_c_numberOf.all goodWord = true := by decide +kernel
def wsP_c_scan : List Cond := .code yX6_scan cX6_scan 6 none :: (([.methodLink RX6 61 yX6_behindBlanks, .static yX6_behindBlanks, .initialized yX6_behindBlanks.cls, .fieldLink RX6 26 "LitmusHall$Reader" "starts" "[I", .methodLink RX6 65 yX6_behindRun, .static yX6_behindRun, .initialized yX6_behindRun.cls, .fieldLink RX6 22 "LitmusHall$Reader" "kinds" "[I", .methodLink RX6 68 yX6_kindOf, .static yX6_kindOf, .initialized yX6_kindOf.cls, .fieldLink RX6 29 "LitmusHall$Reader" "numbers" "[I", .methodLink RX6 71 yX6_numberOf, .static yX6_numberOf, .initialized yX6_numberOf.cls] ++ wsX60) ++ (wsP_c_behindBlanks ++ (wsP_c_behindRun ++ (wsP_c_kindOf ++ (wsP_c_numberOf ++ [])))))
theorem gW_c_scan : wsP_c_scan.all goodWord = true := by unfold wsP_c_scan; exact gw_mk (by decide +kernel) (gw_app gW_c_behindBlanks (gw_app gW_c_behindRun (gw_app gW_c_kindOf (gw_app gW_c_numberOf rfl))))
set_option maxRecDepth 20000 in
theorem gP_c_scan__c_behindBlanks : GoodIn wsP_c_scan (va_wsS RX6 61 yX6_behindBlanks wsP_c_behindBlanks) := gw_in (pre := [.methodLink RX6 61 yX6_behindBlanks, .static yX6_behindBlanks, .initialized yX6_behindBlanks.cls]) (by decide +kernel) (fun _ h => List.mem_cons_of_mem _ (List.mem_append_right _ (List.mem_append_left _ h))) gW_c_behindBlanks
set_option maxRecDepth 20000 in
theorem gP_c_scan__c_behindRun : GoodIn wsP_c_scan (va_wsS RX6 65 yX6_behindRun wsP_c_behindRun) := gw_in (pre := [.methodLink RX6 65 yX6_behindRun, .static yX6_behindRun, .initialized yX6_behindRun.cls]) (by decide +kernel) (fun _ h => List.mem_cons_of_mem _ (List.mem_append_right _ (List.mem_append_right _ (List.mem_append_left _ h)))) gW_c_behindRun
set_option maxRecDepth 20000 in
theorem gP_c_scan__c_kindOf : GoodIn wsP_c_scan (va_wsS RX6 68 yX6_kindOf wsP_c_kindOf) := gw_in (pre := [.methodLink RX6 68 yX6_kindOf, .static yX6_kindOf, .initialized yX6_kindOf.cls]) (by decide +kernel) (fun _ h => List.mem_cons_of_mem _ (List.mem_append_right _ (List.mem_append_right _ (List.mem_append_right _ (List.mem_append_left _ h))))) gW_c_kindOf
set_option maxRecDepth 20000 in
theorem gP_c_scan__c_numberOf : GoodIn wsP_c_scan (va_wsS RX6 71 yX6_numberOf wsP_c_numberOf) := gw_in (pre := [.methodLink RX6 71 yX6_numberOf, .static yX6_numberOf, .initialized yX6_numberOf.cls]) (by decide +kernel) (fun _ h => List.mem_cons_of_mem _ (List.mem_append_right _ (List.mem_append_right _ (List.mem_append_right _ (List.mem_append_right _ (List.mem_append_left _ h)))))) gW_c_numberOf
set_option maxHeartbeats 4000000 in
set_option maxRecDepth 100000 in
theorem c_scan (l : Launch) (D : va_G) (cI cB cZ : ClassId) (K : gKS) (h0 : Nat) (k4 : Nat) (k5 : Nat) (k6 : Nat) (a : Nat) (v0 : Value) (v1 : Value) (v2 : Value) (v3 : Value) (v7 : Value) (v8 : Value) (v9 : Value) (v10 : Value) (v11 : Value) (Kd : Nat → Nat) (sf : Nat → Int32) (nf : Nat → Int32) (f : Nat → Int32) (sz : Nat) (hsz : sz ≤ 4000) (hR : gRdI Kd nf sf) : gMvE l yX6_scan wsP_c_scan ({ frames := 7, cells := 0, slots := 0, locals := 154 }) D cI cB cZ K [] [.ref h0, .ref a, .int (nI sz)] [(h0, .inr (6, [v0, v1, v2, v3, .ref k4, .ref k5, .ref k6, v7, v8, v9, v10, v11])), (k4, .inl (cI, 501, .inl (fun j => nI (Kd j)))), (k5, .inl (cI, 501, .inl sf)), (k6, .inl (cI, 501, .inl nf)), (a, .inl (cB, 4000, .inl f))] (fun w9 => ∃ Kd9 : Nat → Nat, ∃ sf9 : Nat → Int32, ∃ nf9 : Nat → Int32, (gRdI Kd9 nf9 sf9) ∧ w9 = [(h0, .inr (6, [v0, v1, v2, v3, .ref k4, .ref k5, .ref k6, v7, v8, v9, v10, v11])), (k4, .inl (cI, 501, .inl (fun j => nI (Kd9 j)))), (k5, .inl (cI, 501, .inl sf9)), (k6, .inl (cI, 501, .inl nf9)), (a, .inl (cB, 4000, .inl f))]) := by
  refine gMvE.of (cc := cX6_scan) (maxL := 6) (ret := none) (by decide) rfl (Nat.le_of_ble_eq_true rfl) (fun p e s m below meth c A ls hx hb hr hlk hml hts hown hin hA hP hK hD hS hN hE hl => ?_)
  have hown : s.vm.findClass RX6 = some m.cls := hown
  have hl : lv_has ls 6 [(0, .ref h0), (1, .ref a), (2, .int (nI sz))] := hl
  refine lv_iconst (v := 0) hx hb dX6_scan_0 (by decide) ?_
  refine lv_istore_n (lv' := [(3, .int 0), (0, .ref h0), (1, .ref a), (2, .int (nI sz))]) hx hb dX6_scan_1 rfl hl (by decide) rfl (fun ls hl => ?_)
  refine lv_iconst (v := 0) hx hb dX6_scan_2 (by decide) ?_
  refine lv_istore (lv' := [(4, .int 0), (3, .int 0), (0, .ref h0), (1, .ref a), (2, .int (nI sz))]) hx hb dX6_scan_3 hl (by decide) rfl (fun ls hl => ?_)
  refine gy_loop0 (I := fun (x9 : Nat × Nat × (Nat → Nat) × (Nat → Int32) × (Nat → Int32)) H locs ls => (x9.1 ≤ 501) ∧ (x9.2.1 ≤ sz) ∧ (gRdI x9.2.2.1 x9.2.2.2.2 x9.2.2.2.1) ∧ va_P D vwCl [(h0, .inr (6, [v0, v1, v2, v3, .ref k4, .ref k5, .ref k6, v7, v8, v9, v10, v11])), (k4, .inl (cI, 501, .inl (fun j => nI (x9.2.2.1 j)))), (k5, .inl (cI, 501, .inl x9.2.2.2.1)), (k6, .inl (cI, 501, .inl x9.2.2.2.2)), (a, .inl (cB, 4000, .inl f))] H ∧ va_D A [(h0, .inr (6, [v0, v1, v2, v3, .ref k4, .ref k5, .ref k6, v7, v8, v9, v10, v11])), (k4, .inl (cI, 501, .inl (fun j => nI (x9.2.2.1 j)))), (k5, .inl (cI, 501, .inl x9.2.2.2.1)), (k6, .inl (cI, 501, .inl x9.2.2.2.2)), (a, .inl (cB, 4000, .inl f))] ∧ va_S A s.heap H locs ∧ lv_has ls 6 [(4, .int (nI x9.1)), (3, .int (nI x9.2.1)), (0, .ref h0), (1, .ref a), (2, .int (nI sz))]) (μ := fun (x9 : Nat × Nat × (Nat → Nat) × (Nat → Int32) × (Nat → Int32)) => 501 - x9.1) (fun x9 H locs ls hI ih5 => ?_) (0, 0, Kd, sf, nf) ⟨(by show 0 ≤ 501; omega), (by show 0 ≤ sz; omega), hR, hP, hD, hS, lv_sub hl [0, 1, 2, 3, 4] rfl⟩
  obtain ⟨n, fr, Kd1, sf1, nf1⟩ := x9
  obtain ⟨hi5_0, hi5_1, hi5_2, hP, hD, hS, hl⟩ := hI
  have hi5_0 : n ≤ 501 := hi5_0
  have hi5_1 : fr ≤ sz := hi5_1
  have hi5_2 : gRdI Kd1 nf1 sf1 := hi5_2
  have hP : va_P D vwCl [(h0, .inr (6, [v0, v1, v2, v3, .ref k4, .ref k5, .ref k6, v7, v8, v9, v10, v11])), (k4, .inl (cI, 501, .inl (fun j => nI (Kd1 j)))), (k5, .inl (cI, 501, .inl sf1)), (k6, .inl (cI, 501, .inl nf1)), (a, .inl (cB, 4000, .inl f))] H := hP
  have hD : va_D A [(h0, .inr (6, [v0, v1, v2, v3, .ref k4, .ref k5, .ref k6, v7, v8, v9, v10, v11])), (k4, .inl (cI, 501, .inl (fun j => nI (Kd1 j)))), (k5, .inl (cI, 501, .inl sf1)), (k6, .inl (cI, 501, .inl nf1)), (a, .inl (cB, 4000, .inl f))] := hD
  have hS : va_S A s.heap H locs := hS
  have hl : lv_has ls 6 [(4, .int (nI n)), (3, .int (nI fr)), (0, .ref h0), (1, .ref a), (2, .int (nI sz))] := hl
  refine lv_iload hx hb dX6_scan_5 (lv_at hl 0 rfl) ?_
  refine lv_sipush (v := 500) hx hb dX6_scan_7 (by decide) ?_
  refine gy_gt (a := n) (b := 500) (tgt := 117) hx hb (by omega) (by omega) dX6_scan_10 (by decide) (fun c_1 => ?_) (fun c_1 => ?_)
  · exact gx_vret (w' := [(h0, .inr (6, [v0, v1, v2, v3, .ref k4, .ref k5, .ref k6, v7, v8, v9, v10, v11])), (k4, .inl (cI, 501, .inl (fun j => nI (Kd1 j)))), (k5, .inl (cI, 501, .inl sf1)), (k6, .inl (cI, 501, .inl nf1)), (a, .inl (cB, 4000, .inl f))]) hx hb hr hlk hK hP hD hS (Nat.le_of_ble_eq_true rfl) (Nat.le_of_ble_eq_true rfl) dX6_scan_117 ⟨Kd1, sf1, nf1, hi5_2, rfl⟩
  · refine lv_aload_n hx hb dX6_scan_13 rfl (lv_at hl 3 rfl) ?_
    refine lv_iload_n hx hb dX6_scan_14 rfl (lv_at hl 4 rfl) ?_
    refine lv_iload_n hx hb dX6_scan_15 rfl (lv_at hl 1 rfl) ?_
    refine gx_goi (wc := [(a, .inl (cB, 4000, .inl f))]) (wr := [(h0, .inr (6, [v0, v1, v2, v3, .ref k4, .ref k5, .ref k6, v7, v8, v9, v10, v11])), (k4, .inl (cI, 501, .inl (fun j => nI (Kd1 j)))), (k5, .inl (cI, 501, .inl sf1)), (k6, .inl (cI, 501, .inl nf1))]) (va_runS (As := [.ref a, .int (nI sz), .int (nI fr)]) (rest := []) ⟨hx, hb, hml, hown, hts⟩ (c_behindBlanks l D cI cB cZ a f sz fr (by omega) (by omega) _) (va_cwS 3 hts gP_c_scan__c_behindBlanks rfl rfl rfl (by decide +kernel) ⟨Nat.le_of_ble_eq_true rfl, Nat.le_of_ble_eq_true rfl⟩) (gx_preS hK gN.nil hP hD [4] rfl rfl) rfl rfl hl.1 rfl (lv_room (Nat.le_of_ble_eq_true rfl)) dX6_scan_16 ⟨Nat.le_of_ble_eq_true rfl, Nat.le_of_ble_eq_true rfl⟩) hP hD hS hA [4] [0, 1, 2, 3] rfl rfl rfl (by decide) (fun r1 w1 H locs hp hP hD hS => ?_)
    obtain ⟨fr1, hq_2, hq_3, h9, rfl⟩ := hp
    have h9 := h9.symm
    subst h9
    have hq_2 : fr ≤ fr1 := hq_2
    have hq_3 : fr1 ≤ sz := hq_3
    have hP : va_P D vwCl [(h0, .inr (6, [v0, v1, v2, v3, .ref k4, .ref k5, .ref k6, v7, v8, v9, v10, v11])), (k4, .inl (cI, 501, .inl (fun j => nI (Kd1 j)))), (k5, .inl (cI, 501, .inl sf1)), (k6, .inl (cI, 501, .inl nf1)), (a, .inl (cB, 4000, .inl f))] H := hP
    have hD : va_D A [(h0, .inr (6, [v0, v1, v2, v3, .ref k4, .ref k5, .ref k6, v7, v8, v9, v10, v11])), (k4, .inl (cI, 501, .inl (fun j => nI (Kd1 j)))), (k5, .inl (cI, 501, .inl sf1)), (k6, .inl (cI, 501, .inl nf1)), (a, .inl (cB, 4000, .inl f))] := hD
    refine lv_istore_n (lv' := [(3, .int (nI fr1)), (4, .int (nI n)), (0, .ref h0), (1, .ref a), (2, .int (nI sz))]) hx hb dX6_scan_19 rfl hl (by decide) rfl (fun ls hl => ?_)
    refine lv_aload_n hx hb dX6_scan_20 rfl (lv_at hl 2 rfl) ?_
    refine va_get (D := D) (ci := 6) (v := .ref k5) (C := RX6) (T := TX6) (N := 12) hx hb hts (fun _ h => List.mem_cons_of_mem _ (List.mem_append_left _ (List.mem_append_right _ h))) hown hK hP 0 rfl rfl 5 (by decide) (hts (.fieldLink RX6 26 "LitmusHall$Reader" "starts" "[I") (by decide +kernel)) (fun _ h9 => h9) rfl dX6_scan_21 ?_
    refine lv_iload hx hb dX6_scan_24 (lv_at hl 1 rfl) ?_
    refine lv_iload_n hx hb dX6_scan_26 rfl (lv_at hl 0 rfl) ?_
    refine gy_ist (i := n) hx hb hK hP hD hS 2 rfl (by omega) (by omega) dX6_scan_27 (fun H locs hP hD hS => ?_)
    have hP : va_P D vwCl [(h0, .inr (6, [v0, v1, v2, v3, .ref k4, .ref k5, .ref k6, v7, v8, v9, v10, v11])), (k4, .inl (cI, 501, .inl (fun j => nI (Kd1 j)))), (k5, .inl (cI, 501, .inl (upd sf1 n (nI fr1)))), (k6, .inl (cI, 501, .inl nf1)), (a, .inl (cB, 4000, .inl f))] H := hP
    have hD : va_D A [(h0, .inr (6, [v0, v1, v2, v3, .ref k4, .ref k5, .ref k6, v7, v8, v9, v10, v11])), (k4, .inl (cI, 501, .inl (fun j => nI (Kd1 j)))), (k5, .inl (cI, 501, .inl (upd sf1 n (nI fr1)))), (k6, .inl (cI, 501, .inl nf1)), (a, .inl (cB, 4000, .inl f))] := hD
    refine lv_iload_n hx hb dX6_scan_28 rfl (lv_at hl 0 rfl) ?_
    refine lv_iload_n hx hb dX6_scan_29 rfl (lv_at hl 4 rfl) ?_
    refine gy_lt (a := fr1) (b := sz) (tgt := 43) hx hb (by omega) (by omega) dX6_scan_30 (by decide) (fun c_4 => ?_) (fun c_4 => ?_)
    · refine lv_aload_n hx hb dX6_scan_43 rfl (lv_at hl 3 rfl) ?_
      refine lv_iload_n hx hb dX6_scan_44 rfl (lv_at hl 4 rfl) ?_
      refine lv_iload_n hx hb dX6_scan_45 rfl (lv_at hl 0 rfl) ?_
      refine gx_goi (wc := [(a, .inl (cB, 4000, .inl f))]) (wr := [(h0, .inr (6, [v0, v1, v2, v3, .ref k4, .ref k5, .ref k6, v7, v8, v9, v10, v11])), (k4, .inl (cI, 501, .inl (fun j => nI (Kd1 j)))), (k5, .inl (cI, 501, .inl (upd sf1 n (nI fr1)))), (k6, .inl (cI, 501, .inl nf1))]) (va_runS (As := [.ref a, .int (nI sz), .int (nI fr1)]) (rest := []) ⟨hx, hb, hml, hown, hts⟩ (c_behindRun l D cI cB cZ a f sz fr1 (by omega) (by omega) _) (va_cwS 3 hts gP_c_scan__c_behindRun rfl rfl rfl (by decide +kernel) ⟨Nat.le_of_ble_eq_true rfl, Nat.le_of_ble_eq_true rfl⟩) (gx_preS hK gN.nil hP hD [4] rfl rfl) rfl rfl hl.1 rfl (lv_room (Nat.le_of_ble_eq_true rfl)) dX6_scan_46 ⟨Nat.le_of_ble_eq_true rfl, Nat.le_of_ble_eq_true rfl⟩) hP hD hS hA [4] [0, 1, 2, 3] rfl rfl rfl (by decide) (fun r1 w1 H locs hp hP hD hS => ?_)
      obtain ⟨bh, hq_5, hq_6, hq_7, h9, rfl⟩ := hp
      have h9 := h9.symm
      subst h9
      have hq_5 : fr1 < bh := hq_5
      have hq_6 : bh ≤ sz := hq_6
      have hq_7 : (¬ f fr1 < 48 ∧ ¬ 57 < f fr1) → ∀ j, fr1 ≤ j → j < bh → (¬ f j < 48 ∧ ¬ 57 < f j) := hq_7
      have hP : va_P D vwCl [(h0, .inr (6, [v0, v1, v2, v3, .ref k4, .ref k5, .ref k6, v7, v8, v9, v10, v11])), (k4, .inl (cI, 501, .inl (fun j => nI (Kd1 j)))), (k5, .inl (cI, 501, .inl (upd sf1 n (nI fr1)))), (k6, .inl (cI, 501, .inl nf1)), (a, .inl (cB, 4000, .inl f))] H := hP
      have hD : va_D A [(h0, .inr (6, [v0, v1, v2, v3, .ref k4, .ref k5, .ref k6, v7, v8, v9, v10, v11])), (k4, .inl (cI, 501, .inl (fun j => nI (Kd1 j)))), (k5, .inl (cI, 501, .inl (upd sf1 n (nI fr1)))), (k6, .inl (cI, 501, .inl nf1)), (a, .inl (cB, 4000, .inl f))] := hD
      have hdg := hq_7
      refine lv_istore (lv' := [(5, .int (nI bh)), (3, .int (nI fr1)), (4, .int (nI n)), (0, .ref h0), (1, .ref a), (2, .int (nI sz))]) hx hb dX6_scan_49 hl (by decide) rfl (fun ls hl => ?_)
      refine lv_aload_n hx hb dX6_scan_51 rfl (lv_at hl 3 rfl) ?_
      refine va_get (D := D) (ci := 6) (v := .ref k4) (C := RX6) (T := TX6) (N := 12) hx hb hts (fun _ h => List.mem_cons_of_mem _ (List.mem_append_left _ (List.mem_append_right _ h))) hown hK hP 0 rfl rfl 4 (by decide) (hts (.fieldLink RX6 22 "LitmusHall$Reader" "kinds" "[I") (by decide +kernel)) (fun _ h9 => h9) rfl dX6_scan_52 ?_
      refine lv_iload hx hb dX6_scan_55 (lv_at hl 2 rfl) ?_
      refine lv_aload_n hx hb dX6_scan_57 rfl (lv_at hl 4 rfl) ?_
      refine lv_iload_n hx hb dX6_scan_58 rfl (lv_at hl 1 rfl) ?_
      refine lv_iload hx hb dX6_scan_59 (lv_at hl 0 rfl) ?_
      refine gx_goi (wc := [(a, .inl (cB, 4000, .inl f))]) (wr := [(h0, .inr (6, [v0, v1, v2, v3, .ref k4, .ref k5, .ref k6, v7, v8, v9, v10, v11])), (k4, .inl (cI, 501, .inl (fun j => nI (Kd1 j)))), (k5, .inl (cI, 501, .inl (upd sf1 n (nI fr1)))), (k6, .inl (cI, 501, .inl nf1))]) (va_runS (As := [.ref a, .int (nI fr1), .int (nI bh)]) (rest := [.int (nI n), .ref k4]) ⟨hx, hb, hml, hown, hts⟩ (c_kindOf l D cI cB cZ K a f fr1 bh (by omega) (by omega) _) (va_cwS 3 hts gP_c_scan__c_kindOf rfl rfl rfl (by decide +kernel) ⟨Nat.le_of_ble_eq_true rfl, Nat.le_of_ble_eq_true rfl⟩) (ge_preS hE hS hA hK gN.nil hP hD [4] rfl rfl) rfl rfl hl.1 rfl (lv_room (Nat.le_of_ble_eq_true rfl)) dX6_scan_61 ⟨Nat.le_of_ble_eq_true rfl, Nat.le_of_ble_eq_true rfl⟩) hP hD hS hA [4] [0, 1, 2, 3] rfl rfl rfl (by decide) (fun r1 w1 H locs hp hP hD hS => ?_)
      obtain ⟨q, hq_8, hq_9, h9, rfl⟩ := hp
      have h9 := h9.symm
      subst h9
      have hq_8 : q ≤ 22 := hq_8
      have hq_9 : q = 16 → (¬ f fr1 < 48 ∧ ¬ 57 < f fr1) ∧ bh ≤ fr1 + 3 := hq_9
      have hP : va_P D vwCl [(h0, .inr (6, [v0, v1, v2, v3, .ref k4, .ref k5, .ref k6, v7, v8, v9, v10, v11])), (k4, .inl (cI, 501, .inl (fun j => nI (Kd1 j)))), (k5, .inl (cI, 501, .inl (upd sf1 n (nI fr1)))), (k6, .inl (cI, 501, .inl nf1)), (a, .inl (cB, 4000, .inl f))] H := hP
      have hD : va_D A [(h0, .inr (6, [v0, v1, v2, v3, .ref k4, .ref k5, .ref k6, v7, v8, v9, v10, v11])), (k4, .inl (cI, 501, .inl (fun j => nI (Kd1 j)))), (k5, .inl (cI, 501, .inl (upd sf1 n (nI fr1)))), (k6, .inl (cI, 501, .inl nf1)), (a, .inl (cB, 4000, .inl f))] := hD
      have hq22 := hq_8
      have hq16 := hq_9
      refine gy_istN (i := n) (v := q) hx hb hK hP hD hS 1 rfl (by omega) (by omega) dX6_scan_64 (fun H locs hP hD hS => ?_)
      have hP : va_P D vwCl [(h0, .inr (6, [v0, v1, v2, v3, .ref k4, .ref k5, .ref k6, v7, v8, v9, v10, v11])), (k4, .inl (cI, 501, .inl (fun j => nI ((updN Kd1 n q) j)))), (k5, .inl (cI, 501, .inl (upd sf1 n (nI fr1)))), (k6, .inl (cI, 501, .inl nf1)), (a, .inl (cB, 4000, .inl f))] H := hP
      have hD : va_D A [(h0, .inr (6, [v0, v1, v2, v3, .ref k4, .ref k5, .ref k6, v7, v8, v9, v10, v11])), (k4, .inl (cI, 501, .inl (fun j => nI ((updN Kd1 n q) j)))), (k5, .inl (cI, 501, .inl (upd sf1 n (nI fr1)))), (k6, .inl (cI, 501, .inl nf1)), (a, .inl (cB, 4000, .inl f))] := hD
      refine lv_aload_n hx hb dX6_scan_65 rfl (lv_at hl 3 rfl) ?_
      refine va_get (D := D) (ci := 6) (v := .ref k4) (C := RX6) (T := TX6) (N := 12) hx hb hts (fun _ h => List.mem_cons_of_mem _ (List.mem_append_left _ (List.mem_append_right _ h))) hown hK hP 0 rfl rfl 4 (by decide) (hts (.fieldLink RX6 22 "LitmusHall$Reader" "kinds" "[I") (by decide +kernel)) (fun _ h9 => h9) rfl dX6_scan_66 ?_
      refine lv_iload hx hb dX6_scan_69 (lv_at hl 2 rfl) ?_
      refine gy_ild (i := n) hx hb hK hP 1 rfl (by omega) (by omega) dX6_scan_71 ?_
      refine gx_top (y := nI ((updN Kd1 n q) n)) rfl ?_
      refine gx_top (y := nI q) (congrArg nI updN_s) ?_
      refine lv_bipush (v := 22) hx hb dX6_scan_72 (by decide) ?_
      refine gy_ne (a := q) (b := 22) (tgt := 78) hx hb (by omega) (by omega) dX6_scan_74 (by decide) (fun c_10 => ?_) (fun c_10 => ?_)
      · refine lv_aload_n hx hb dX6_scan_78 rfl (lv_at hl 3 rfl) ?_
        refine va_get (D := D) (ci := 6) (v := .ref k6) (C := RX6) (T := TX6) (N := 12) hx hb hts (fun _ h => List.mem_cons_of_mem _ (List.mem_append_left _ (List.mem_append_right _ h))) hown hK hP 0 rfl rfl 6 (by decide) (hts (.fieldLink RX6 29 "LitmusHall$Reader" "numbers" "[I") (by decide +kernel)) (fun _ h9 => h9) rfl dX6_scan_79 ?_
        refine lv_iload hx hb dX6_scan_82 (lv_at hl 2 rfl) ?_
        refine lv_aload_n hx hb dX6_scan_84 rfl (lv_at hl 3 rfl) ?_
        refine va_get (D := D) (ci := 6) (v := .ref k4) (C := RX6) (T := TX6) (N := 12) hx hb hts (fun _ h => List.mem_cons_of_mem _ (List.mem_append_left _ (List.mem_append_right _ h))) hown hK hP 0 rfl rfl 4 (by decide) (hts (.fieldLink RX6 22 "LitmusHall$Reader" "kinds" "[I") (by decide +kernel)) (fun _ h9 => h9) rfl dX6_scan_85 ?_
        refine lv_iload hx hb dX6_scan_88 (lv_at hl 2 rfl) ?_
        refine gy_ild (i := n) hx hb hK hP 1 rfl (by omega) (by omega) dX6_scan_90 ?_
        refine gx_top (y := nI ((updN Kd1 n q) n)) rfl ?_
        refine gx_top (y := nI q) (congrArg nI updN_s) ?_
        refine lv_bipush (v := 16) hx hb dX6_scan_91 (by decide) ?_
        refine gy_ne (a := q) (b := 16) (tgt := 106) hx hb (by omega) (by omega) dX6_scan_93 (by decide) (fun c_11 => ?_) (fun c_11 => ?_)
        · refine lv_iconst (v := (-1)) hx hb dX6_scan_106 (by decide) ?_
          refine gy_ist (i := n) hx hb hK hP hD hS 3 rfl (by omega) (by omega) dX6_scan_107 (fun H locs hP hD hS => ?_)
          have hP : va_P D vwCl [(h0, .inr (6, [v0, v1, v2, v3, .ref k4, .ref k5, .ref k6, v7, v8, v9, v10, v11])), (k4, .inl (cI, 501, .inl (fun j => nI ((updN Kd1 n q) j)))), (k5, .inl (cI, 501, .inl (upd sf1 n (nI fr1)))), (k6, .inl (cI, 501, .inl (upd nf1 n (-1)))), (a, .inl (cB, 4000, .inl f))] H := hP
          have hD : va_D A [(h0, .inr (6, [v0, v1, v2, v3, .ref k4, .ref k5, .ref k6, v7, v8, v9, v10, v11])), (k4, .inl (cI, 501, .inl (fun j => nI ((updN Kd1 n q) j)))), (k5, .inl (cI, 501, .inl (upd sf1 n (nI fr1)))), (k6, .inl (cI, 501, .inl (upd nf1 n (-1)))), (a, .inl (cB, 4000, .inl f))] := hD
          refine lv_iload hx hb dX6_scan_108 (lv_at hl 0 rfl) ?_
          refine lv_istore_n (lv' := [(3, .int (nI bh)), (5, .int (nI bh)), (4, .int (nI n)), (0, .ref h0), (1, .ref a), (2, .int (nI sz))]) hx hb dX6_scan_110 rfl hl (by decide) rfl (fun ls hl => ?_)
          refine lv_iinc (v := nI (n + 1)) (lv' := [(4, .int (nI (n + 1))), (3, .int (nI bh)), (5, .int (nI bh)), (0, .ref h0), (1, .ref a), (2, .int (nI sz))]) hx hb dX6_scan_111 hl (k := 2) rfl (nI_add n 1) (by decide) rfl (fun ls hl => ?_)
          refine lv_goto (tgt := 5) hx hb dX6_scan_114 (by decide) ?_
          exact ih5 ((n + 1), bh, (updN Kd1 n q), (upd sf1 n (nI fr1)), (upd nf1 n (-1))) H locs ls ⟨(by show (n + 1) ≤ 501; omega), (by show bh ≤ sz; omega), (gRdI_s hi5_2 hq22 (by first | exact fun _ => ⟨_, hnum, rfl⟩ | exact fun h => absurd h c_11) (by omega)), hP, hD, hS, lv_sub hl [0, 1, 3, 4, 5] rfl⟩ (by show 501 - (n + 1) < 501 - n; omega)
        · have hqq := hq16 c_11
          refine lv_aload_n hx hb dX6_scan_96 rfl (lv_at hl 4 rfl) ?_
          refine lv_iload_n hx hb dX6_scan_97 rfl (lv_at hl 1 rfl) ?_
          refine lv_iload hx hb dX6_scan_98 (lv_at hl 0 rfl) ?_
          refine gx_goi (wc := [(a, .inl (cB, 4000, .inl f))]) (wr := [(h0, .inr (6, [v0, v1, v2, v3, .ref k4, .ref k5, .ref k6, v7, v8, v9, v10, v11])), (k4, .inl (cI, 501, .inl (fun j => nI ((updN Kd1 n q) j)))), (k5, .inl (cI, 501, .inl (upd sf1 n (nI fr1)))), (k6, .inl (cI, 501, .inl nf1))]) (va_runS (As := [.ref a, .int (nI fr1), .int (nI bh)]) (rest := [.int (nI n), .ref k6]) ⟨hx, hb, hml, hown, hts⟩ (c_numberOf l D cI cB cZ a f fr1 bh (by omega) (by omega) hqq.2 (hdg hqq.1) _) (va_cwS 3 hts gP_c_scan__c_numberOf rfl rfl rfl (by decide +kernel) ⟨Nat.le_of_ble_eq_true rfl, Nat.le_of_ble_eq_true rfl⟩) (gx_preS hK gN.nil hP hD [4] rfl rfl) rfl rfl hl.1 rfl (lv_room (Nat.le_of_ble_eq_true rfl)) dX6_scan_100 ⟨Nat.le_of_ble_eq_true rfl, Nat.le_of_ble_eq_true rfl⟩) hP hD hS hA [4] [0, 1, 2, 3] rfl rfl rfl (by decide) (fun r1 w1 H locs hp hP hD hS => ?_)
          obtain ⟨e_12, hq_13, h9, rfl⟩ := hp
          have h9 := h9.symm
          subst h9
          have hq_13 : e_12 ≤ 999 := hq_13
          have hP : va_P D vwCl [(h0, .inr (6, [v0, v1, v2, v3, .ref k4, .ref k5, .ref k6, v7, v8, v9, v10, v11])), (k4, .inl (cI, 501, .inl (fun j => nI ((updN Kd1 n q) j)))), (k5, .inl (cI, 501, .inl (upd sf1 n (nI fr1)))), (k6, .inl (cI, 501, .inl nf1)), (a, .inl (cB, 4000, .inl f))] H := hP
          have hD : va_D A [(h0, .inr (6, [v0, v1, v2, v3, .ref k4, .ref k5, .ref k6, v7, v8, v9, v10, v11])), (k4, .inl (cI, 501, .inl (fun j => nI ((updN Kd1 n q) j)))), (k5, .inl (cI, 501, .inl (upd sf1 n (nI fr1)))), (k6, .inl (cI, 501, .inl nf1)), (a, .inl (cB, 4000, .inl f))] := hD
          have hnum := hq_13
          refine lv_goto (tgt := 107) hx hb dX6_scan_103 (by decide) ?_
          refine gy_ist (i := n) hx hb hK hP hD hS 3 rfl (by omega) (by omega) dX6_scan_107 (fun H locs hP hD hS => ?_)
          have hP : va_P D vwCl [(h0, .inr (6, [v0, v1, v2, v3, .ref k4, .ref k5, .ref k6, v7, v8, v9, v10, v11])), (k4, .inl (cI, 501, .inl (fun j => nI ((updN Kd1 n q) j)))), (k5, .inl (cI, 501, .inl (upd sf1 n (nI fr1)))), (k6, .inl (cI, 501, .inl (upd nf1 n (nI e_12)))), (a, .inl (cB, 4000, .inl f))] H := hP
          have hD : va_D A [(h0, .inr (6, [v0, v1, v2, v3, .ref k4, .ref k5, .ref k6, v7, v8, v9, v10, v11])), (k4, .inl (cI, 501, .inl (fun j => nI ((updN Kd1 n q) j)))), (k5, .inl (cI, 501, .inl (upd sf1 n (nI fr1)))), (k6, .inl (cI, 501, .inl (upd nf1 n (nI e_12)))), (a, .inl (cB, 4000, .inl f))] := hD
          refine lv_iload hx hb dX6_scan_108 (lv_at hl 0 rfl) ?_
          refine lv_istore_n (lv' := [(3, .int (nI bh)), (5, .int (nI bh)), (4, .int (nI n)), (0, .ref h0), (1, .ref a), (2, .int (nI sz))]) hx hb dX6_scan_110 rfl hl (by decide) rfl (fun ls hl => ?_)
          refine lv_iinc (v := nI (n + 1)) (lv' := [(4, .int (nI (n + 1))), (3, .int (nI bh)), (5, .int (nI bh)), (0, .ref h0), (1, .ref a), (2, .int (nI sz))]) hx hb dX6_scan_111 hl (k := 2) rfl (nI_add n 1) (by decide) rfl (fun ls hl => ?_)
          refine lv_goto (tgt := 5) hx hb dX6_scan_114 (by decide) ?_
          exact ih5 ((n + 1), bh, (updN Kd1 n q), (upd sf1 n (nI fr1)), (upd nf1 n (nI e_12))) H locs ls ⟨(by show (n + 1) ≤ 501; omega), (by show bh ≤ sz; omega), (gRdI_s hi5_2 hq22 (by first | exact fun _ => ⟨_, hnum, rfl⟩ | exact fun h => absurd h hq_13) (by omega)), hP, hD, hS, lv_sub hl [0, 1, 3, 4, 5] rfl⟩ (by show 501 - (n + 1) < 501 - n; omega)
      · exact gx_vret (w' := [(h0, .inr (6, [v0, v1, v2, v3, .ref k4, .ref k5, .ref k6, v7, v8, v9, v10, v11])), (k4, .inl (cI, 501, .inl (fun j => nI ((updN Kd1 n q) j)))), (k5, .inl (cI, 501, .inl (upd sf1 n (nI fr1)))), (k6, .inl (cI, 501, .inl nf1)), (a, .inl (cB, 4000, .inl f))]) hx hb hr hlk hK hP hD hS (Nat.le_of_ble_eq_true rfl) (Nat.le_of_ble_eq_true rfl) dX6_scan_77 ⟨(updN Kd1 n q), (upd sf1 n (nI fr1)), nf1, (gRdI_k hi5_2 hq22 (by omega) (by omega)), rfl⟩
    · refine lv_aload_n hx hb dX6_scan_33 rfl (lv_at hl 2 rfl) ?_
      refine va_get (D := D) (ci := 6) (v := .ref k4) (C := RX6) (T := TX6) (N := 12) hx hb hts (fun _ h => List.mem_cons_of_mem _ (List.mem_append_left _ (List.mem_append_right _ h))) hown hK hP 0 rfl rfl 4 (by decide) (hts (.fieldLink RX6 22 "LitmusHall$Reader" "kinds" "[I") (by decide +kernel)) (fun _ h9 => h9) rfl dX6_scan_34 ?_
      refine lv_iload hx hb dX6_scan_37 (lv_at hl 1 rfl) ?_
      refine lv_bipush (v := 21) hx hb dX6_scan_39 (by decide) ?_
      refine gy_istN (i := n) (v := 21) hx hb hK hP hD hS 1 rfl (by omega) (by omega) dX6_scan_41 (fun H locs hP hD hS => ?_)
      have hP : va_P D vwCl [(h0, .inr (6, [v0, v1, v2, v3, .ref k4, .ref k5, .ref k6, v7, v8, v9, v10, v11])), (k4, .inl (cI, 501, .inl (fun j => nI ((updN Kd1 n 21) j)))), (k5, .inl (cI, 501, .inl (upd sf1 n (nI fr1)))), (k6, .inl (cI, 501, .inl nf1)), (a, .inl (cB, 4000, .inl f))] H := hP
      have hD : va_D A [(h0, .inr (6, [v0, v1, v2, v3, .ref k4, .ref k5, .ref k6, v7, v8, v9, v10, v11])), (k4, .inl (cI, 501, .inl (fun j => nI ((updN Kd1 n 21) j)))), (k5, .inl (cI, 501, .inl (upd sf1 n (nI fr1)))), (k6, .inl (cI, 501, .inl nf1)), (a, .inl (cB, 4000, .inl f))] := hD
      exact gx_vret (w' := [(h0, .inr (6, [v0, v1, v2, v3, .ref k4, .ref k5, .ref k6, v7, v8, v9, v10, v11])), (k4, .inl (cI, 501, .inl (fun j => nI ((updN Kd1 n 21) j)))), (k5, .inl (cI, 501, .inl (upd sf1 n (nI fr1)))), (k6, .inl (cI, 501, .inl nf1)), (a, .inl (cB, 4000, .inl f))]) hx hb hr hlk hK hP hD hS (Nat.le_of_ble_eq_true rfl) (Nat.le_of_ble_eq_true rfl) dX6_scan_42 ⟨(updN Kd1 n 21), (upd sf1 n (nI fr1)), nf1, (gRdI_k hi5_2 (by omega) (by omega) (by omega)), rfl⟩
