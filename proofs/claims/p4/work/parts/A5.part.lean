theorem dX6_readPart_0 : decode cX6_readPart 0 = .ok (.iload_n 2, 1) := by decide +kernel
theorem dX6_readPart_1 : decode cX6_readPart 1 = .ok (.bipush 82, 2) := by decide +kernel
theorem dX6_readPart_10 : decode cX6_readPart 10 = .ok (.istore_n 3, 1) := by decide +kernel
theorem dX6_readPart_102 : decode cX6_readPart 102 = .ok (.istore 4, 2) := by decide +kernel
theorem dX6_readPart_104 : decode cX6_readPart 104 = .ok (.aload_n 0, 1) := by decide +kernel
theorem dX6_readPart_105 : decode cX6_readPart 105 = .ok (.getfield 12, 3) := by decide +kernel
theorem dX6_readPart_108 : decode cX6_readPart 108 = .ok (.getfield 168, 3) := by decide +kernel
theorem dX6_readPart_11 : decode cX6_readPart 11 = .ok (.aload_n 0, 1) := by decide +kernel
theorem dX6_readPart_111 : decode cX6_readPart 111 = .ok (.iload_n 1, 1) := by decide +kernel
theorem dX6_readPart_112 : decode cX6_readPart 112 = .ok (.iload_n 3, 1) := by decide +kernel
theorem dX6_readPart_113 : decode cX6_readPart 113 = .ok (.iadd, 1) := by decide +kernel
theorem dX6_readPart_114 : decode cX6_readPart 114 = .ok (.aload_n 0, 1) := by decide +kernel
theorem dX6_readPart_115 : decode cX6_readPart 115 = .ok (.getfield 122, 3) := by decide +kernel
theorem dX6_readPart_118 : decode cX6_readPart 118 = .ok (.iastore, 1) := by decide +kernel
theorem dX6_readPart_119 : decode cX6_readPart 119 = .ok (.aload_n 0, 1) := by decide +kernel
theorem dX6_readPart_12 : decode cX6_readPart 12 = .ok (.getfield 12, 3) := by decide +kernel
theorem dX6_readPart_120 : decode cX6_readPart 120 = .ok (.getfield 12, 3) := by decide +kernel
theorem dX6_readPart_123 : decode cX6_readPart 123 = .ok (.getfield 168, 3) := by decide +kernel
theorem dX6_readPart_126 : decode cX6_readPart 126 = .ok (.iload_n 1, 1) := by decide +kernel
theorem dX6_readPart_127 : decode cX6_readPart 127 = .ok (.iload_n 3, 1) := by decide +kernel
theorem dX6_readPart_128 : decode cX6_readPart 128 = .ok (.iadd, 1) := by decide +kernel
theorem dX6_readPart_129 : decode cX6_readPart 129 = .ok (.iconst 1, 1) := by decide +kernel
theorem dX6_readPart_130 : decode cX6_readPart 130 = .ok (.iadd, 1) := by decide +kernel
theorem dX6_readPart_131 : decode cX6_readPart 131 = .ok (.aload_n 0, 1) := by decide +kernel
theorem dX6_readPart_132 : decode cX6_readPart 132 = .ok (.getfield 108, 3) := by decide +kernel
theorem dX6_readPart_135 : decode cX6_readPart 135 = .ok (.iastore, 1) := by decide +kernel
theorem dX6_readPart_136 : decode cX6_readPart 136 = .ok (.iload 4, 2) := by decide +kernel
theorem dX6_readPart_138 : decode cX6_readPart 138 = .ok (.ireturn, 1) := by decide +kernel
theorem dX6_readPart_15 : decode cX6_readPart 15 = .ok (.getfield 168, 3) := by decide +kernel
theorem dX6_readPart_18 : decode cX6_readPart 18 = .ok (.iload_n 1, 1) := by decide +kernel
theorem dX6_readPart_19 : decode cX6_readPart 19 = .ok (.iconst 2, 1) := by decide +kernel
theorem dX6_readPart_20 : decode cX6_readPart 20 = .ok (.iadd, 1) := by decide +kernel
theorem dX6_readPart_21 : decode cX6_readPart 21 = .ok (.aload_n 0, 1) := by decide +kernel
theorem dX6_readPart_22 : decode cX6_readPart 22 = .ok (.getfield 122, 3) := by decide +kernel
theorem dX6_readPart_25 : decode cX6_readPart 25 = .ok (.iastore, 1) := by decide +kernel
theorem dX6_readPart_26 : decode cX6_readPart 26 = .ok (.iload_n 3, 1) := by decide +kernel
theorem dX6_readPart_27 : decode cX6_readPart 27 = .ok (.ireturn, 1) := by decide +kernel
theorem dX6_readPart_28 : decode cX6_readPart 28 = .ok (.iload_n 2, 1) := by decide +kernel
theorem dX6_readPart_29 : decode cX6_readPart 29 = .ok (.bipush 67, 2) := by decide +kernel
theorem dX6_readPart_3 : decode cX6_readPart 3 = .ok (.if_icmp .ne 25, 3) := by decide +kernel
theorem dX6_readPart_31 : decode cX6_readPart 31 = .ok (.if_icmp .ne 25, 3) := by decide +kernel
theorem dX6_readPart_34 : decode cX6_readPart 34 = .ok (.aload_n 0, 1) := by decide +kernel
theorem dX6_readPart_35 : decode cX6_readPart 35 = .ok (.invokevirtual 105, 3) := by decide +kernel
theorem dX6_readPart_38 : decode cX6_readPart 38 = .ok (.istore_n 3, 1) := by decide +kernel
theorem dX6_readPart_39 : decode cX6_readPart 39 = .ok (.aload_n 0, 1) := by decide +kernel
theorem dX6_readPart_40 : decode cX6_readPart 40 = .ok (.getfield 12, 3) := by decide +kernel
theorem dX6_readPart_43 : decode cX6_readPart 43 = .ok (.getfield 168, 3) := by decide +kernel
theorem dX6_readPart_46 : decode cX6_readPart 46 = .ok (.iload_n 1, 1) := by decide +kernel
theorem dX6_readPart_47 : decode cX6_readPart 47 = .ok (.iconst 1, 1) := by decide +kernel
theorem dX6_readPart_48 : decode cX6_readPart 48 = .ok (.iadd, 1) := by decide +kernel
theorem dX6_readPart_49 : decode cX6_readPart 49 = .ok (.aload_n 0, 1) := by decide +kernel
theorem dX6_readPart_50 : decode cX6_readPart 50 = .ok (.getfield 108, 3) := by decide +kernel
theorem dX6_readPart_53 : decode cX6_readPart 53 = .ok (.iastore, 1) := by decide +kernel
theorem dX6_readPart_54 : decode cX6_readPart 54 = .ok (.iload_n 3, 1) := by decide +kernel
theorem dX6_readPart_55 : decode cX6_readPart 55 = .ok (.ireturn, 1) := by decide +kernel
theorem dX6_readPart_56 : decode cX6_readPart 56 = .ok (.iload_n 2, 1) := by decide +kernel
theorem dX6_readPart_57 : decode cX6_readPart 57 = .ok (.bipush 83, 2) := by decide +kernel
theorem dX6_readPart_59 : decode cX6_readPart 59 = .ok (.if_icmp .ne 26, 3) := by decide +kernel
theorem dX6_readPart_6 : decode cX6_readPart 6 = .ok (.aload_n 0, 1) := by decide +kernel
theorem dX6_readPart_62 : decode cX6_readPart 62 = .ok (.aload_n 0, 1) := by decide +kernel
theorem dX6_readPart_63 : decode cX6_readPart 63 = .ok (.invokevirtual 171, 3) := by decide +kernel
theorem dX6_readPart_66 : decode cX6_readPart 66 = .ok (.istore_n 3, 1) := by decide +kernel
theorem dX6_readPart_67 : decode cX6_readPart 67 = .ok (.aload_n 0, 1) := by decide +kernel
theorem dX6_readPart_68 : decode cX6_readPart 68 = .ok (.getfield 12, 3) := by decide +kernel
theorem dX6_readPart_7 : decode cX6_readPart 7 = .ok (.invokevirtual 165, 3) := by decide +kernel
theorem dX6_readPart_71 : decode cX6_readPart 71 = .ok (.getfield 168, 3) := by decide +kernel
theorem dX6_readPart_74 : decode cX6_readPart 74 = .ok (.iload_n 1, 1) := by decide +kernel
theorem dX6_readPart_75 : decode cX6_readPart 75 = .ok (.bipush 7, 2) := by decide +kernel
theorem dX6_readPart_77 : decode cX6_readPart 77 = .ok (.iadd, 1) := by decide +kernel
theorem dX6_readPart_78 : decode cX6_readPart 78 = .ok (.aload_n 0, 1) := by decide +kernel
theorem dX6_readPart_79 : decode cX6_readPart 79 = .ok (.getfield 108, 3) := by decide +kernel
theorem dX6_readPart_82 : decode cX6_readPart 82 = .ok (.iastore, 1) := by decide +kernel
theorem dX6_readPart_83 : decode cX6_readPart 83 = .ok (.iload_n 3, 1) := by decide +kernel
theorem dX6_readPart_84 : decode cX6_readPart 84 = .ok (.ireturn, 1) := by decide +kernel
theorem dX6_readPart_85 : decode cX6_readPart 85 = .ok (.iload_n 2, 1) := by decide +kernel
theorem dX6_readPart_86 : decode cX6_readPart 86 = .ok (.bipush 86, 2) := by decide +kernel
theorem dX6_readPart_88 : decode cX6_readPart 88 = .ok (.if_icmp .ne 7, 3) := by decide +kernel
theorem dX6_readPart_91 : decode cX6_readPart 91 = .ok (.iconst 3, 1) := by decide +kernel
theorem dX6_readPart_92 : decode cX6_readPart 92 = .ok (.goto 4, 3) := by decide +kernel
theorem dX6_readPart_95 : decode cX6_readPart 95 = .ok (.iconst 5, 1) := by decide +kernel
theorem dX6_readPart_96 : decode cX6_readPart 96 = .ok (.istore_n 3, 1) := by decide +kernel
theorem dX6_readPart_97 : decode cX6_readPart 97 = .ok (.aload_n 0, 1) := by decide +kernel
theorem dX6_readPart_98 : decode cX6_readPart 98 = .ok (.iconst 1, 1) := by decide +kernel
theorem dX6_readPart_99 : decode cX6_readPart 99 = .ok (.invokevirtual 111, 3) := by decide +kernel
theorem gTkN {z : Int32} {P Q : Prop} (h : (z = 0 ∧ P) ∨ (z = 1 ∧ Q)) (hz : z = 0) : P := by
  rcases h with h | h
  · exact h.2
  · exact absurd (hz.symm.trans h.1) (by decide)
theorem gTkz {z : Int32} {P Q : Prop} (h : (z = 0 ∧ P) ∨ (z = 1 ∧ Q)) : z = 0 ∨ z = 1 := h.imp And.left And.left
/-- an INS as it was read: the CELL may be too large if a late fault is noted -/
def gInq (pf : Nat → Int32) (n : Nat) (lp : Int32) : Prop := ∃ q, q ≤ 8 ∧ pf (n + 0) = nI q ∧ (q ≠ 1 → q ≠ 4 → ∃ r, r < 3 ∧ pf (n + 2) = nI r) ∧ (q ≠ 2 → q ≠ 3 → q ≠ 4 → q ≠ 8 → ∃ x, x ≤ 999 ∧ pf (n + 1) = nI x ∧ (lp = (-1) → x < 4)) ∧ (pf (n + 3) = (-1) ∨ ∃ r, r < 3 ∧ pf (n + 3) = nI r) ∧ (pf (n + 5) = (-1) ∨ ∃ r, r < 3 ∧ pf (n + 5) = nI r) ∧ (q = 8 → ∃ y, y ≤ 999 ∧ pf (n + 7) = nI y)
theorem gInq_lp {pf : Nat → Int32} {n : Nat} {lp lp' : Int32} (h : gInq pf n lp) (hl : lp' = (-1) → lp = (-1)) : gInq pf n lp' := by
  obtain ⟨q, h1, h2, h3, h4, h5⟩ := h
  refine ⟨q, h1, h2, h3, fun a b c d => ?_, h5⟩
  obtain ⟨x, x1, x2, x3⟩ := h4 a b c d
  exact ⟨x, x1, x2, fun e => x3 (hl e)⟩
theorem gInq_fr {pf pf' : Nat → Int32} {n : Nat} {lp : Int32} (h : gInq pf n lp) (he : ∀ j, n ≤ j → j < n + 8 → pf' j = pf j) : gInq pf' n lp := by
  unfold gInq at h ⊢
  rw [he (n + 0) (by omega) (by omega), he (n + 1) (by omega) (by omega), he (n + 2) (by omega) (by omega), he (n + 3) (by omega) (by omega), he (n + 5) (by omega) (by omega), he (n + 7) (by omega) (by omega)]
  exact h
theorem gIns_fr {pf pf' : Nat → Int32} {n b : Nat} (h : gIns pf n b) (he : ∀ j, n ≤ j → j < n + 8 → pf' j = pf j) : gIns pf' n b := by
  unfold gIns at h ⊢
  rw [he (n + 0) (by omega) (by omega), he (n + 1) (by omega) (by omega), he (n + 2) (by omega) (by omega), he (n + 3) (by omega) (by omega), he (n + 5) (by omega) (by omega), he (n + 7) (by omega) (by omega)]
  exact h
theorem gIns_q {pf : Nat → Int32} {n m : Nat} {lp : Int32} (h : gInq pf n lp) (hl : lp = (-1)) (hm : m ≤ 5) (hs : pf (n + 7) ≤ nI m) : gIns pf n 5 := by
  obtain ⟨q, h1, h2, h3, h4, h5, h6, h7⟩ := h
  refine ⟨q, h1, h2, h3, fun a b c d => ?_, h5, h6, fun e => ?_⟩
  · obtain ⟨x, x1, x2, x3⟩ := h4 a b c d
    exact ⟨x, x3 hl, x2⟩
  · obtain ⟨y, y1, y2⟩ := h7 e
    rw [y2] at hs
    have := (nI_leI (a := y) (b := m) (by omega) (by omega)).mp hs
    exact ⟨y, by omega, y2⟩
def wsP_c_partR : List Cond := .code yX6_readPart cX6_readPart 5 (some .boolean) :: (([.methodLink RX6 165 yX6_takeReg, .instanceMethod yX6_takeReg, .selects RX6 yX6_takeReg yX6_takeReg, .initialized RX6, .fieldLink RX6 12 "LitmusHall$Reader" "draft" "LLitmusHall$Program;", .fieldLink RX6 168 "LitmusHall$Program" "parts" "[I", .fieldLink RX6 122 "LitmusHall$Reader" "valueReg" "I"] ++ wsX60 ++ wsX40) ++ (wsP_c_takeReg ++ []))
theorem gW_c_partR : wsP_c_partR.all goodWord = true := by unfold wsP_c_partR; exact gw_mk (by decide +kernel) (gw_app gW_c_takeReg rfl)
set_option maxRecDepth 20000 in
theorem gP_c_partR__c_takeReg : GoodIn wsP_c_partR (wsV RX6 165 RX6 yX6_takeReg wsP_c_takeReg) := gw_in (pre := [.methodLink RX6 165 yX6_takeReg, .instanceMethod yX6_takeReg, .selects RX6 yX6_takeReg yX6_takeReg, .initialized RX6]) (by decide +kernel) (fun _ h => List.mem_cons_of_mem _ (List.mem_append_right _ (List.mem_append_left _ h))) gW_c_takeReg
set_option maxHeartbeats 4000000 in
set_option maxRecDepth 100000 in
theorem c_partR (l : Launch) (D : va_G) (cI cB cZ : ClassId) (h0 : Nat) (d0 : Nat) (e3 : Nat) (k4 : Nat) (k5 : Nat) (k6 : Nat) (v7 : Value) (v9 : Value) (w0 : Value) (w1 : Value) (w2 : Value) (pv : Int32) (fv : Int32) (Kd : Nat → Nat) (sf : Nat → Int32) (nf : Nat → Int32) (t : Nat) (lp : Int32) (vr : Int32) (vl : Int32) (pf : Nat → Int32) (n : Nat) (ht : t ≤ 500) (hR : gRdI Kd nf sf) (hn : n + 8 ≤ 192) : gMi l yX6_readPart wsP_c_partR ({ frames := 3, cells := 0, slots := 0, locals := 63 }) D cI cB cZ [] [.ref h0, .int (nI n), .int 82] [(h0, .inr (6, [.ref d0, .int pv, .int fv, .int lp, .ref k4, .ref k5, .ref k6, v7, .int (nI t), v9, .int vr, .int vl])), (k4, .inl (cI, 501, .inl (fun j => nI (Kd j)))), (k5, .inl (cI, 501, .inl sf)), (k6, .inl (cI, 501, .inl nf)), (d0, .inr (4, [w0, w1, w2, .ref e3])), (e3, .inl (cI, 192, .inl pf))] (fun r9 w9 => ∃ z : Int32, ∃ pv9 : Int32, ∃ fv9 : Int32, ∃ t9 : Nat, ∃ vr9 : Int32, ((z = 0 ∧ ¬ fv9 = 0) ∨ (z = 1 ∧ fv9 = fv ∧ t < t9 ∧ (∃ r, r < 3 ∧ vr9 = nI r))) ∧ (t ≤ t9 ∧ t9 ≤ 500) ∧ r9 = z ∧ w9 = [(h0, .inr (6, [.ref d0, .int pv9, .int fv9, .int lp, .ref k4, .ref k5, .ref k6, v7, .int (nI t9), v9, .int vr9, .int vl])), (k4, .inl (cI, 501, .inl (fun j => nI (Kd j)))), (k5, .inl (cI, 501, .inl sf)), (k6, .inl (cI, 501, .inl nf)), (d0, .inr (4, [w0, w1, w2, .ref e3])), (e3, .inl (cI, 192, .inl (upd pf (n + 2) vr9)))]) := by
  refine gMi.of (cc := cX6_readPart) (maxL := 5) (ret := (some .boolean)) (by decide) rfl (Nat.le_of_ble_eq_true rfl) (fun p e s m below meth c A ls hx hb hr hlk hml hts hown hin hA hP hK hD hS hN hl => ?_)
  have hown : s.vm.findClass RX6 = some m.cls := hown
  have hl : lv_has ls 5 [(0, .ref h0), (1, .int (nI n)), (2, .int 82)] := hl
  refine lv_iload_n hx hb dX6_readPart_0 rfl (lv_at hl 2 rfl) ?_
  refine lv_bipush (v := 82) hx hb dX6_readPart_1 (by decide) ?_
  refine lv_icmp_ne (tgt := 28) hx hb dX6_readPart_3 (by decide) (fun c9 => absurd (by decide) c9) (fun _ => ?_)
  refine lv_aload_n hx hb dX6_readPart_6 rfl (lv_at hl 0 rfl) ?_
  refine gx_goi (wc := [(h0, .inr (6, [.ref d0, .int pv, .int fv, .int lp, .ref k4, .ref k5, .ref k6, v7, .int (nI t), v9, .int vr, .int vl])), (k4, .inl (cI, 501, .inl (fun j => nI (Kd j)))), (k5, .inl (cI, 501, .inl sf)), (k6, .inl (cI, 501, .inl nf))]) (wr := [(d0, .inr (4, [w0, w1, w2, .ref e3])), (e3, .inl (cI, 192, .inl pf))]) (va_runV (As := []) (rest := []) ⟨hx, hb, hml, hown, hts⟩ (c_takeReg l D cI cB cZ h0 k4 k5 k6 (.ref d0) (.int lp) (v7) (v9) (.int vl) pv fv Kd sf nf t vr (by omega) hR _) (cwV 0 hts gP_c_partR__c_takeReg rfl rfl rfl (by decide +kernel) ⟨Nat.le_of_ble_eq_true rfl, Nat.le_of_ble_eq_true rfl⟩) (gx_preV (ci := 6) (q0 := 0) hK gN.nil hP hD [0, 1, 2, 3] rfl rfl rfl rfl) rfl rfl hl.1 rfl (lv_room (Nat.le_of_ble_eq_true rfl)) dX6_readPart_7 ⟨Nat.le_of_ble_eq_true rfl, Nat.le_of_ble_eq_true rfl⟩) hP hD hS hA [0, 1, 2, 3] [4, 5] rfl rfl rfl (by decide) (fun r1 w1 H locs hp hP hD hS => ?_)
  obtain ⟨e_1, e_2, e_3, e_4, e_5, hq_6, hq_7, h9, rfl⟩ := hp
  have h9 := h9.symm
  subst h9
  have hq_6 : (e_1 = 0 ∧ ¬ e_3 = 0) ∨ (e_1 = 1 ∧ e_3 = fv ∧ t < e_4 ∧ (∃ r, r < 3 ∧ e_5 = nI r)) := hq_6
  have hq_7 : t ≤ e_4 ∧ e_4 ≤ 500 := hq_7
  have hP : va_P D vwCl [(d0, .inr (4, [w0, w1, w2, .ref e3])), (e3, .inl (cI, 192, .inl pf)), (h0, .inr (6, [.ref d0, .int e_2, .int e_3, .int lp, .ref k4, .ref k5, .ref k6, v7, .int (nI e_4), v9, .int e_5, .int vl])), (k4, .inl (cI, 501, .inl (fun j => nI (Kd j)))), (k5, .inl (cI, 501, .inl sf)), (k6, .inl (cI, 501, .inl nf))] H := hP
  have hD : va_D A [(d0, .inr (4, [w0, w1, w2, .ref e3])), (e3, .inl (cI, 192, .inl pf)), (h0, .inr (6, [.ref d0, .int e_2, .int e_3, .int lp, .ref k4, .ref k5, .ref k6, v7, .int (nI e_4), v9, .int e_5, .int vl])), (k4, .inl (cI, 501, .inl (fun j => nI (Kd j)))), (k5, .inl (cI, 501, .inl sf)), (k6, .inl (cI, 501, .inl nf))] := hD
  have hpz := hq_6
  have hpt := hq_7
  refine lv_istore_n (lv' := [(3, .int e_1), (0, .ref h0), (1, .int (nI n)), (2, .int 82)]) hx hb dX6_readPart_10 rfl hl (by decide) rfl (fun ls hl => ?_)
  refine lv_aload_n hx hb dX6_readPart_11 rfl (lv_at hl 1 rfl) ?_
  refine va_get (D := D) (ci := 6) (v := .ref d0) (C := RX6) (T := TX6) (N := 12) hx hb hts (fun _ h => List.mem_cons_of_mem _ (List.mem_append_left _ (List.mem_append_left _ (List.mem_append_right _ h)))) hown hK hP 2 rfl rfl 0 (by decide) (hts (.fieldLink RX6 12 "LitmusHall$Reader" "draft" "LLitmusHall$Program;") (by decide +kernel)) (fun _ h9 => h9) rfl dX6_readPart_12 ?_
  refine va_get (D := D) (ci := 4) (v := .ref e3) (C := RX4) (T := TX4) (N := 4) hx hb hts (fun _ h => List.mem_cons_of_mem _ (List.mem_append_left _ (List.mem_append_right _ h))) hown hK hP 0 rfl rfl 3 (by decide) (hts (.fieldLink RX6 168 "LitmusHall$Program" "parts" "[I") (by decide +kernel)) (fun _ h9 => h9) rfl dX6_readPart_15 ?_
  refine lv_iload_n hx hb dX6_readPart_18 rfl (lv_at hl 2 rfl) ?_
  refine lv_iconst (v := 2) hx hb dX6_readPart_19 (by decide) ?_
  refine lv_iadd hx hb dX6_readPart_20 ?_
  refine gx_top (y := nI (n + 2)) (nI_add n 2) ?_
  refine lv_aload_n hx hb dX6_readPart_21 rfl (lv_at hl 1 rfl) ?_
  refine va_get (D := D) (ci := 6) (v := .int e_5) (C := RX6) (T := TX6) (N := 12) hx hb hts (fun _ h => List.mem_cons_of_mem _ (List.mem_append_left _ (List.mem_append_left _ (List.mem_append_right _ h)))) hown hK hP 2 rfl rfl 10 (by decide) (hts (.fieldLink RX6 122 "LitmusHall$Reader" "valueReg" "I") (by decide +kernel)) (fun _ h9 => h9) rfl dX6_readPart_22 ?_
  refine gy_ist (i := (n + 2)) hx hb hK hP hD hS 1 rfl (by omega) (by omega) dX6_readPart_25 (fun H locs hP hD hS => ?_)
  have hP : va_P D vwCl [(d0, .inr (4, [w0, w1, w2, .ref e3])), (e3, .inl (cI, 192, .inl (upd pf (n + 2) e_5))), (h0, .inr (6, [.ref d0, .int e_2, .int e_3, .int lp, .ref k4, .ref k5, .ref k6, v7, .int (nI e_4), v9, .int e_5, .int vl])), (k4, .inl (cI, 501, .inl (fun j => nI (Kd j)))), (k5, .inl (cI, 501, .inl sf)), (k6, .inl (cI, 501, .inl nf))] H := hP
  have hD : va_D A [(d0, .inr (4, [w0, w1, w2, .ref e3])), (e3, .inl (cI, 192, .inl (upd pf (n + 2) e_5))), (h0, .inr (6, [.ref d0, .int e_2, .int e_3, .int lp, .ref k4, .ref k5, .ref k6, v7, .int (nI e_4), v9, .int e_5, .int vl])), (k4, .inl (cI, 501, .inl (fun j => nI (Kd j)))), (k5, .inl (cI, 501, .inl sf)), (k6, .inl (cI, 501, .inl nf))] := hD
  refine lv_iload_n hx hb dX6_readPart_26 rfl (lv_at hl 0 rfl) ?_
  have hP := hP.sub (ws' := [(h0, .inr (6, [.ref d0, .int e_2, .int e_3, .int lp, .ref k4, .ref k5, .ref k6, v7, .int (nI e_4), v9, .int e_5, .int vl])), (k4, .inl (cI, 501, .inl (fun j => nI (Kd j)))), (k5, .inl (cI, 501, .inl sf)), (k6, .inl (cI, 501, .inl nf)), (d0, .inr (4, [w0, w1, w2, .ref e3])), (e3, .inl (cI, 192, .inl (upd pf (n + 2) e_5)))]) [2, 3, 4, 5, 0, 1] rfl
  have hD := hD.sub (ws' := [(h0, .inr (6, [.ref d0, .int e_2, .int e_3, .int lp, .ref k4, .ref k5, .ref k6, v7, .int (nI e_4), v9, .int e_5, .int vl])), (k4, .inl (cI, 501, .inl (fun j => nI (Kd j)))), (k5, .inl (cI, 501, .inl sf)), (k6, .inl (cI, 501, .inl nf)), (d0, .inr (4, [w0, w1, w2, .ref e3])), (e3, .inl (cI, 192, .inl (upd pf (n + 2) e_5)))]) [2, 3, 4, 5, 0, 1] (by decide) rfl
  exact gx_zret (w' := [(h0, .inr (6, [.ref d0, .int e_2, .int e_3, .int lp, .ref k4, .ref k5, .ref k6, v7, .int (nI e_4), v9, .int e_5, .int vl])), (k4, .inl (cI, 501, .inl (fun j => nI (Kd j)))), (k5, .inl (cI, 501, .inl sf)), (k6, .inl (cI, 501, .inl nf)), (d0, .inr (4, [w0, w1, w2, .ref e3])), (e3, .inl (cI, 192, .inl (upd pf (n + 2) e_5)))]) hx hb hr hlk hK hP hD hS (Nat.le_of_ble_eq_true rfl) (Nat.le_of_ble_eq_true rfl) dX6_readPart_27 (gy_z01 (gTkz hpz)) ⟨e_1, e_2, e_3, e_4, e_5, hpz, hpt, rfl, rfl⟩
def wsP_c_partC : List Cond := .code yX6_readPart cX6_readPart 5 (some .boolean) :: (([.methodLink RX6 105 yX6_takeCell, .instanceMethod yX6_takeCell, .selects RX6 yX6_takeCell yX6_takeCell, .initialized RX6, .fieldLink RX6 12 "LitmusHall$Reader" "draft" "LLitmusHall$Program;", .fieldLink RX6 168 "LitmusHall$Program" "parts" "[I", .fieldLink RX6 108 "LitmusHall$Reader" "value" "I"] ++ wsX60 ++ wsX40) ++ (wsP_c_takeCell ++ []))
theorem gW_c_partC : wsP_c_partC.all goodWord = true := by unfold wsP_c_partC; exact gw_mk (by decide +kernel) (gw_app gW_c_takeCell rfl)
set_option maxRecDepth 20000 in
theorem gP_c_partC__c_takeCell : GoodIn wsP_c_partC (wsV RX6 105 RX6 yX6_takeCell wsP_c_takeCell) := gw_in (pre := [.methodLink RX6 105 yX6_takeCell, .instanceMethod yX6_takeCell, .selects RX6 yX6_takeCell yX6_takeCell, .initialized RX6]) (by decide +kernel) (fun _ h => List.mem_cons_of_mem _ (List.mem_append_right _ (List.mem_append_left _ h))) gW_c_takeCell
set_option maxHeartbeats 4000000 in
set_option maxRecDepth 100000 in
theorem c_partC (l : Launch) (D : va_G) (cI cB cZ : ClassId) (h0 : Nat) (d0 : Nat) (e3 : Nat) (k4 : Nat) (k5 : Nat) (k6 : Nat) (v7 : Value) (v9 : Value) (w0 : Value) (w1 : Value) (w2 : Value) (pv : Int32) (fv : Int32) (Kd : Nat → Nat) (sf : Nat → Int32) (nf : Nat → Int32) (t : Nat) (lp : Int32) (vr : Int32) (vl : Int32) (pf : Nat → Int32) (n : Nat) (ht : t ≤ 500) (hR : gRdI Kd nf sf) (hn : n + 8 ≤ 192) : gMi l yX6_readPart wsP_c_partC ({ frames := 3, cells := 0, slots := 0, locals := 62 }) D cI cB cZ [] [.ref h0, .int (nI n), .int 67] [(h0, .inr (6, [.ref d0, .int pv, .int fv, .int lp, .ref k4, .ref k5, .ref k6, v7, .int (nI t), v9, .int vr, .int vl])), (k4, .inl (cI, 501, .inl (fun j => nI (Kd j)))), (k5, .inl (cI, 501, .inl sf)), (k6, .inl (cI, 501, .inl nf)), (d0, .inr (4, [w0, w1, w2, .ref e3])), (e3, .inl (cI, 192, .inl pf))] (fun r9 w9 => ∃ z : Int32, ∃ pv9 : Int32, ∃ fv9 : Int32, ∃ t9 : Nat, ∃ vl9 : Int32, ∃ lp9 : Int32, ((z = 0 ∧ ¬ fv9 = 0) ∨ (z = 1 ∧ fv9 = fv ∧ t < t9 ∧ (∃ x, x ≤ 999 ∧ vl9 = nI x ∧ (lp9 = (-1) → x < 4)))) ∧ (t ≤ t9 ∧ t9 ≤ 500) ∧ (lp9 = (-1) → lp = (-1)) ∧ r9 = z ∧ w9 = [(h0, .inr (6, [.ref d0, .int pv9, .int fv9, .int lp9, .ref k4, .ref k5, .ref k6, v7, .int (nI t9), v9, .int vr, .int vl9])), (k4, .inl (cI, 501, .inl (fun j => nI (Kd j)))), (k5, .inl (cI, 501, .inl sf)), (k6, .inl (cI, 501, .inl nf)), (d0, .inr (4, [w0, w1, w2, .ref e3])), (e3, .inl (cI, 192, .inl (upd pf (n + 1) vl9)))]) := by
  refine gMi.of (cc := cX6_readPart) (maxL := 5) (ret := (some .boolean)) (by decide) rfl (Nat.le_of_ble_eq_true rfl) (fun p e s m below meth c A ls hx hb hr hlk hml hts hown hin hA hP hK hD hS hN hl => ?_)
  have hown : s.vm.findClass RX6 = some m.cls := hown
  have hl : lv_has ls 5 [(0, .ref h0), (1, .int (nI n)), (2, .int 67)] := hl
  refine lv_iload_n hx hb dX6_readPart_0 rfl (lv_at hl 2 rfl) ?_
  refine lv_bipush (v := 82) hx hb dX6_readPart_1 (by decide) ?_
  refine lv_icmp_ne (tgt := 28) hx hb dX6_readPart_3 (by decide) (fun _ => ?_) (fun c9 => absurd c9 (by decide))
  refine lv_iload_n hx hb dX6_readPart_28 rfl (lv_at hl 2 rfl) ?_
  refine lv_bipush (v := 67) hx hb dX6_readPart_29 (by decide) ?_
  refine lv_icmp_ne (tgt := 56) hx hb dX6_readPart_31 (by decide) (fun c9 => absurd (by decide) c9) (fun _ => ?_)
  refine lv_aload_n hx hb dX6_readPart_34 rfl (lv_at hl 0 rfl) ?_
  refine gx_goi (wc := [(h0, .inr (6, [.ref d0, .int pv, .int fv, .int lp, .ref k4, .ref k5, .ref k6, v7, .int (nI t), v9, .int vr, .int vl])), (k4, .inl (cI, 501, .inl (fun j => nI (Kd j)))), (k5, .inl (cI, 501, .inl sf)), (k6, .inl (cI, 501, .inl nf))]) (wr := [(d0, .inr (4, [w0, w1, w2, .ref e3])), (e3, .inl (cI, 192, .inl pf))]) (va_runV (As := []) (rest := []) ⟨hx, hb, hml, hown, hts⟩ (c_takeCell l D cI cB cZ h0 k4 k5 k6 (.ref d0) (v7) (v9) (.int vr) pv fv Kd sf nf t vl lp (by omega) hR _) (cwV 0 hts gP_c_partC__c_takeCell rfl rfl rfl (by decide +kernel) ⟨Nat.le_of_ble_eq_true rfl, Nat.le_of_ble_eq_true rfl⟩) (gx_preV (ci := 6) (q0 := 0) hK gN.nil hP hD [0, 1, 2, 3] rfl rfl rfl rfl) rfl rfl hl.1 rfl (lv_room (Nat.le_of_ble_eq_true rfl)) dX6_readPart_35 ⟨Nat.le_of_ble_eq_true rfl, Nat.le_of_ble_eq_true rfl⟩) hP hD hS hA [0, 1, 2, 3] [4, 5] rfl rfl rfl (by decide) (fun r1 w1 H locs hp hP hD hS => ?_)
  obtain ⟨e_1, e_2, e_3, e_4, e_5, e_6, hq_7, hq_8, hq_9, h9, rfl⟩ := hp
  have h9 := h9.symm
  subst h9
  have hq_7 : (e_1 = 0 ∧ ¬ e_3 = 0) ∨ (e_1 = 1 ∧ e_3 = fv ∧ t < e_4 ∧ (∃ x, x ≤ 999 ∧ e_5 = nI x ∧ (e_6 = (-1) → x < 4))) := hq_7
  have hq_8 : t ≤ e_4 ∧ e_4 ≤ 500 := hq_8
  have hq_9 : e_6 = (-1) → lp = (-1) := hq_9
  have hP : va_P D vwCl [(d0, .inr (4, [w0, w1, w2, .ref e3])), (e3, .inl (cI, 192, .inl pf)), (h0, .inr (6, [.ref d0, .int e_2, .int e_3, .int e_6, .ref k4, .ref k5, .ref k6, v7, .int (nI e_4), v9, .int vr, .int e_5])), (k4, .inl (cI, 501, .inl (fun j => nI (Kd j)))), (k5, .inl (cI, 501, .inl sf)), (k6, .inl (cI, 501, .inl nf))] H := hP
  have hD : va_D A [(d0, .inr (4, [w0, w1, w2, .ref e3])), (e3, .inl (cI, 192, .inl pf)), (h0, .inr (6, [.ref d0, .int e_2, .int e_3, .int e_6, .ref k4, .ref k5, .ref k6, v7, .int (nI e_4), v9, .int vr, .int e_5])), (k4, .inl (cI, 501, .inl (fun j => nI (Kd j)))), (k5, .inl (cI, 501, .inl sf)), (k6, .inl (cI, 501, .inl nf))] := hD
  have hpz := hq_7
  have hpt := hq_8
  have hpl := hq_9
  refine lv_istore_n (lv' := [(3, .int e_1), (0, .ref h0), (1, .int (nI n)), (2, .int 67)]) hx hb dX6_readPart_38 rfl hl (by decide) rfl (fun ls hl => ?_)
  refine lv_aload_n hx hb dX6_readPart_39 rfl (lv_at hl 1 rfl) ?_
  refine va_get (D := D) (ci := 6) (v := .ref d0) (C := RX6) (T := TX6) (N := 12) hx hb hts (fun _ h => List.mem_cons_of_mem _ (List.mem_append_left _ (List.mem_append_left _ (List.mem_append_right _ h)))) hown hK hP 2 rfl rfl 0 (by decide) (hts (.fieldLink RX6 12 "LitmusHall$Reader" "draft" "LLitmusHall$Program;") (by decide +kernel)) (fun _ h9 => h9) rfl dX6_readPart_40 ?_
  refine va_get (D := D) (ci := 4) (v := .ref e3) (C := RX4) (T := TX4) (N := 4) hx hb hts (fun _ h => List.mem_cons_of_mem _ (List.mem_append_left _ (List.mem_append_right _ h))) hown hK hP 0 rfl rfl 3 (by decide) (hts (.fieldLink RX6 168 "LitmusHall$Program" "parts" "[I") (by decide +kernel)) (fun _ h9 => h9) rfl dX6_readPart_43 ?_
  refine lv_iload_n hx hb dX6_readPart_46 rfl (lv_at hl 2 rfl) ?_
  refine lv_iconst (v := 1) hx hb dX6_readPart_47 (by decide) ?_
  refine lv_iadd hx hb dX6_readPart_48 ?_
  refine gx_top (y := nI (n + 1)) (nI_add n 1) ?_
  refine lv_aload_n hx hb dX6_readPart_49 rfl (lv_at hl 1 rfl) ?_
  refine va_get (D := D) (ci := 6) (v := .int e_5) (C := RX6) (T := TX6) (N := 12) hx hb hts (fun _ h => List.mem_cons_of_mem _ (List.mem_append_left _ (List.mem_append_left _ (List.mem_append_right _ h)))) hown hK hP 2 rfl rfl 11 (by decide) (hts (.fieldLink RX6 108 "LitmusHall$Reader" "value" "I") (by decide +kernel)) (fun _ h9 => h9) rfl dX6_readPart_50 ?_
  refine gy_ist (i := (n + 1)) hx hb hK hP hD hS 1 rfl (by omega) (by omega) dX6_readPart_53 (fun H locs hP hD hS => ?_)
  have hP : va_P D vwCl [(d0, .inr (4, [w0, w1, w2, .ref e3])), (e3, .inl (cI, 192, .inl (upd pf (n + 1) e_5))), (h0, .inr (6, [.ref d0, .int e_2, .int e_3, .int e_6, .ref k4, .ref k5, .ref k6, v7, .int (nI e_4), v9, .int vr, .int e_5])), (k4, .inl (cI, 501, .inl (fun j => nI (Kd j)))), (k5, .inl (cI, 501, .inl sf)), (k6, .inl (cI, 501, .inl nf))] H := hP
  have hD : va_D A [(d0, .inr (4, [w0, w1, w2, .ref e3])), (e3, .inl (cI, 192, .inl (upd pf (n + 1) e_5))), (h0, .inr (6, [.ref d0, .int e_2, .int e_3, .int e_6, .ref k4, .ref k5, .ref k6, v7, .int (nI e_4), v9, .int vr, .int e_5])), (k4, .inl (cI, 501, .inl (fun j => nI (Kd j)))), (k5, .inl (cI, 501, .inl sf)), (k6, .inl (cI, 501, .inl nf))] := hD
  refine lv_iload_n hx hb dX6_readPart_54 rfl (lv_at hl 0 rfl) ?_
  have hP := hP.sub (ws' := [(h0, .inr (6, [.ref d0, .int e_2, .int e_3, .int e_6, .ref k4, .ref k5, .ref k6, v7, .int (nI e_4), v9, .int vr, .int e_5])), (k4, .inl (cI, 501, .inl (fun j => nI (Kd j)))), (k5, .inl (cI, 501, .inl sf)), (k6, .inl (cI, 501, .inl nf)), (d0, .inr (4, [w0, w1, w2, .ref e3])), (e3, .inl (cI, 192, .inl (upd pf (n + 1) e_5)))]) [2, 3, 4, 5, 0, 1] rfl
  have hD := hD.sub (ws' := [(h0, .inr (6, [.ref d0, .int e_2, .int e_3, .int e_6, .ref k4, .ref k5, .ref k6, v7, .int (nI e_4), v9, .int vr, .int e_5])), (k4, .inl (cI, 501, .inl (fun j => nI (Kd j)))), (k5, .inl (cI, 501, .inl sf)), (k6, .inl (cI, 501, .inl nf)), (d0, .inr (4, [w0, w1, w2, .ref e3])), (e3, .inl (cI, 192, .inl (upd pf (n + 1) e_5)))]) [2, 3, 4, 5, 0, 1] (by decide) rfl
  exact gx_zret (w' := [(h0, .inr (6, [.ref d0, .int e_2, .int e_3, .int e_6, .ref k4, .ref k5, .ref k6, v7, .int (nI e_4), v9, .int vr, .int e_5])), (k4, .inl (cI, 501, .inl (fun j => nI (Kd j)))), (k5, .inl (cI, 501, .inl sf)), (k6, .inl (cI, 501, .inl nf)), (d0, .inr (4, [w0, w1, w2, .ref e3])), (e3, .inl (cI, 192, .inl (upd pf (n + 1) e_5)))]) hx hb hr hlk hK hP hD hS (Nat.le_of_ble_eq_true rfl) (Nat.le_of_ble_eq_true rfl) dX6_readPart_55 (gy_z01 (gTkz hpz)) ⟨e_1, e_2, e_3, e_4, e_5, e_6, hpz, hpt, hpl, rfl, rfl⟩
def wsP_c_partS : List Cond := .code yX6_readPart cX6_readPart 5 (some .boolean) :: (([.methodLink RX6 171 yX6_takeSkip, .instanceMethod yX6_takeSkip, .selects RX6 yX6_takeSkip yX6_takeSkip, .initialized RX6, .fieldLink RX6 12 "LitmusHall$Reader" "draft" "LLitmusHall$Program;", .fieldLink RX6 168 "LitmusHall$Program" "parts" "[I", .fieldLink RX6 108 "LitmusHall$Reader" "value" "I"] ++ wsX60 ++ wsX40) ++ (wsP_c_takeSkip ++ []))
theorem gW_c_partS : wsP_c_partS.all goodWord = true := by unfold wsP_c_partS; exact gw_mk (by decide +kernel) (gw_app gW_c_takeSkip rfl)
set_option maxRecDepth 20000 in
theorem gP_c_partS__c_takeSkip : GoodIn wsP_c_partS (wsV RX6 171 RX6 yX6_takeSkip wsP_c_takeSkip) := gw_in (pre := [.methodLink RX6 171 yX6_takeSkip, .instanceMethod yX6_takeSkip, .selects RX6 yX6_takeSkip yX6_takeSkip, .initialized RX6]) (by decide +kernel) (fun _ h => List.mem_cons_of_mem _ (List.mem_append_right _ (List.mem_append_left _ h))) gW_c_takeSkip
set_option maxHeartbeats 4000000 in
set_option maxRecDepth 100000 in
theorem c_partS (l : Launch) (D : va_G) (cI cB cZ : ClassId) (h0 : Nat) (d0 : Nat) (e3 : Nat) (k4 : Nat) (k5 : Nat) (k6 : Nat) (v7 : Value) (v9 : Value) (w0 : Value) (w1 : Value) (w2 : Value) (pv : Int32) (fv : Int32) (Kd : Nat → Nat) (sf : Nat → Int32) (nf : Nat → Int32) (t : Nat) (lp : Int32) (vr : Int32) (vl : Int32) (pf : Nat → Int32) (n : Nat) (ht : t ≤ 500) (hR : gRdI Kd nf sf) (hn : n + 8 ≤ 192) : gMi l yX6_readPart wsP_c_partS ({ frames := 3, cells := 0, slots := 0, locals := 62 }) D cI cB cZ [] [.ref h0, .int (nI n), .int 83] [(h0, .inr (6, [.ref d0, .int pv, .int fv, .int lp, .ref k4, .ref k5, .ref k6, v7, .int (nI t), v9, .int vr, .int vl])), (k4, .inl (cI, 501, .inl (fun j => nI (Kd j)))), (k5, .inl (cI, 501, .inl sf)), (k6, .inl (cI, 501, .inl nf)), (d0, .inr (4, [w0, w1, w2, .ref e3])), (e3, .inl (cI, 192, .inl pf))] (fun r9 w9 => ∃ z : Int32, ∃ pv9 : Int32, ∃ fv9 : Int32, ∃ t9 : Nat, ∃ vl9 : Int32, ((z = 0 ∧ ¬ fv9 = 0) ∨ (z = 1 ∧ fv9 = fv ∧ t < t9 ∧ (∃ x, x ≤ 999 ∧ vl9 = nI x))) ∧ (t ≤ t9 ∧ t9 ≤ 500) ∧ r9 = z ∧ w9 = [(h0, .inr (6, [.ref d0, .int pv9, .int fv9, .int lp, .ref k4, .ref k5, .ref k6, v7, .int (nI t9), v9, .int vr, .int vl9])), (k4, .inl (cI, 501, .inl (fun j => nI (Kd j)))), (k5, .inl (cI, 501, .inl sf)), (k6, .inl (cI, 501, .inl nf)), (d0, .inr (4, [w0, w1, w2, .ref e3])), (e3, .inl (cI, 192, .inl (upd pf (n + 7) vl9)))]) := by
  refine gMi.of (cc := cX6_readPart) (maxL := 5) (ret := (some .boolean)) (by decide) rfl (Nat.le_of_ble_eq_true rfl) (fun p e s m below meth c A ls hx hb hr hlk hml hts hown hin hA hP hK hD hS hN hl => ?_)
  have hown : s.vm.findClass RX6 = some m.cls := hown
  have hl : lv_has ls 5 [(0, .ref h0), (1, .int (nI n)), (2, .int 83)] := hl
  refine lv_iload_n hx hb dX6_readPart_0 rfl (lv_at hl 2 rfl) ?_
  refine lv_bipush (v := 82) hx hb dX6_readPart_1 (by decide) ?_
  refine lv_icmp_ne (tgt := 28) hx hb dX6_readPart_3 (by decide) (fun _ => ?_) (fun c9 => absurd c9 (by decide))
  refine lv_iload_n hx hb dX6_readPart_28 rfl (lv_at hl 2 rfl) ?_
  refine lv_bipush (v := 67) hx hb dX6_readPart_29 (by decide) ?_
  refine lv_icmp_ne (tgt := 56) hx hb dX6_readPart_31 (by decide) (fun _ => ?_) (fun c9 => absurd c9 (by decide))
  refine lv_iload_n hx hb dX6_readPart_56 rfl (lv_at hl 2 rfl) ?_
  refine lv_bipush (v := 83) hx hb dX6_readPart_57 (by decide) ?_
  refine lv_icmp_ne (tgt := 85) hx hb dX6_readPart_59 (by decide) (fun c9 => absurd (by decide) c9) (fun _ => ?_)
  refine lv_aload_n hx hb dX6_readPart_62 rfl (lv_at hl 0 rfl) ?_
  refine gx_goi (wc := [(h0, .inr (6, [.ref d0, .int pv, .int fv, .int lp, .ref k4, .ref k5, .ref k6, v7, .int (nI t), v9, .int vr, .int vl])), (k4, .inl (cI, 501, .inl (fun j => nI (Kd j)))), (k5, .inl (cI, 501, .inl sf)), (k6, .inl (cI, 501, .inl nf))]) (wr := [(d0, .inr (4, [w0, w1, w2, .ref e3])), (e3, .inl (cI, 192, .inl pf))]) (va_runV (As := []) (rest := []) ⟨hx, hb, hml, hown, hts⟩ (c_takeSkip l D cI cB cZ h0 k4 k5 k6 (.ref d0) (.int lp) (v7) (v9) (.int vr) pv fv Kd sf nf t vl (by omega) hR _) (cwV 0 hts gP_c_partS__c_takeSkip rfl rfl rfl (by decide +kernel) ⟨Nat.le_of_ble_eq_true rfl, Nat.le_of_ble_eq_true rfl⟩) (gx_preV (ci := 6) (q0 := 0) hK gN.nil hP hD [0, 1, 2, 3] rfl rfl rfl rfl) rfl rfl hl.1 rfl (lv_room (Nat.le_of_ble_eq_true rfl)) dX6_readPart_63 ⟨Nat.le_of_ble_eq_true rfl, Nat.le_of_ble_eq_true rfl⟩) hP hD hS hA [0, 1, 2, 3] [4, 5] rfl rfl rfl (by decide) (fun r1 w1 H locs hp hP hD hS => ?_)
  obtain ⟨e_1, e_2, e_3, e_4, e_5, hq_6, hq_7, h9, rfl⟩ := hp
  have h9 := h9.symm
  subst h9
  have hq_6 : (e_1 = 0 ∧ ¬ e_3 = 0) ∨ (e_1 = 1 ∧ e_3 = fv ∧ t < e_4 ∧ (∃ x, x ≤ 999 ∧ e_5 = nI x)) := hq_6
  have hq_7 : t ≤ e_4 ∧ e_4 ≤ 500 := hq_7
  have hP : va_P D vwCl [(d0, .inr (4, [w0, w1, w2, .ref e3])), (e3, .inl (cI, 192, .inl pf)), (h0, .inr (6, [.ref d0, .int e_2, .int e_3, .int lp, .ref k4, .ref k5, .ref k6, v7, .int (nI e_4), v9, .int vr, .int e_5])), (k4, .inl (cI, 501, .inl (fun j => nI (Kd j)))), (k5, .inl (cI, 501, .inl sf)), (k6, .inl (cI, 501, .inl nf))] H := hP
  have hD : va_D A [(d0, .inr (4, [w0, w1, w2, .ref e3])), (e3, .inl (cI, 192, .inl pf)), (h0, .inr (6, [.ref d0, .int e_2, .int e_3, .int lp, .ref k4, .ref k5, .ref k6, v7, .int (nI e_4), v9, .int vr, .int e_5])), (k4, .inl (cI, 501, .inl (fun j => nI (Kd j)))), (k5, .inl (cI, 501, .inl sf)), (k6, .inl (cI, 501, .inl nf))] := hD
  have hpz := hq_6
  have hpt := hq_7
  refine lv_istore_n (lv' := [(3, .int e_1), (0, .ref h0), (1, .int (nI n)), (2, .int 83)]) hx hb dX6_readPart_66 rfl hl (by decide) rfl (fun ls hl => ?_)
  refine lv_aload_n hx hb dX6_readPart_67 rfl (lv_at hl 1 rfl) ?_
  refine va_get (D := D) (ci := 6) (v := .ref d0) (C := RX6) (T := TX6) (N := 12) hx hb hts (fun _ h => List.mem_cons_of_mem _ (List.mem_append_left _ (List.mem_append_left _ (List.mem_append_right _ h)))) hown hK hP 2 rfl rfl 0 (by decide) (hts (.fieldLink RX6 12 "LitmusHall$Reader" "draft" "LLitmusHall$Program;") (by decide +kernel)) (fun _ h9 => h9) rfl dX6_readPart_68 ?_
  refine va_get (D := D) (ci := 4) (v := .ref e3) (C := RX4) (T := TX4) (N := 4) hx hb hts (fun _ h => List.mem_cons_of_mem _ (List.mem_append_left _ (List.mem_append_right _ h))) hown hK hP 0 rfl rfl 3 (by decide) (hts (.fieldLink RX6 168 "LitmusHall$Program" "parts" "[I") (by decide +kernel)) (fun _ h9 => h9) rfl dX6_readPart_71 ?_
  refine lv_iload_n hx hb dX6_readPart_74 rfl (lv_at hl 2 rfl) ?_
  refine lv_bipush (v := 7) hx hb dX6_readPart_75 (by decide) ?_
  refine lv_iadd hx hb dX6_readPart_77 ?_
  refine gx_top (y := nI (n + 7)) (nI_add n 7) ?_
  refine lv_aload_n hx hb dX6_readPart_78 rfl (lv_at hl 1 rfl) ?_
  refine va_get (D := D) (ci := 6) (v := .int e_5) (C := RX6) (T := TX6) (N := 12) hx hb hts (fun _ h => List.mem_cons_of_mem _ (List.mem_append_left _ (List.mem_append_left _ (List.mem_append_right _ h)))) hown hK hP 2 rfl rfl 11 (by decide) (hts (.fieldLink RX6 108 "LitmusHall$Reader" "value" "I") (by decide +kernel)) (fun _ h9 => h9) rfl dX6_readPart_79 ?_
  refine gy_ist (i := (n + 7)) hx hb hK hP hD hS 1 rfl (by omega) (by omega) dX6_readPart_82 (fun H locs hP hD hS => ?_)
  have hP : va_P D vwCl [(d0, .inr (4, [w0, w1, w2, .ref e3])), (e3, .inl (cI, 192, .inl (upd pf (n + 7) e_5))), (h0, .inr (6, [.ref d0, .int e_2, .int e_3, .int lp, .ref k4, .ref k5, .ref k6, v7, .int (nI e_4), v9, .int vr, .int e_5])), (k4, .inl (cI, 501, .inl (fun j => nI (Kd j)))), (k5, .inl (cI, 501, .inl sf)), (k6, .inl (cI, 501, .inl nf))] H := hP
  have hD : va_D A [(d0, .inr (4, [w0, w1, w2, .ref e3])), (e3, .inl (cI, 192, .inl (upd pf (n + 7) e_5))), (h0, .inr (6, [.ref d0, .int e_2, .int e_3, .int lp, .ref k4, .ref k5, .ref k6, v7, .int (nI e_4), v9, .int vr, .int e_5])), (k4, .inl (cI, 501, .inl (fun j => nI (Kd j)))), (k5, .inl (cI, 501, .inl sf)), (k6, .inl (cI, 501, .inl nf))] := hD
  refine lv_iload_n hx hb dX6_readPart_83 rfl (lv_at hl 0 rfl) ?_
  have hP := hP.sub (ws' := [(h0, .inr (6, [.ref d0, .int e_2, .int e_3, .int lp, .ref k4, .ref k5, .ref k6, v7, .int (nI e_4), v9, .int vr, .int e_5])), (k4, .inl (cI, 501, .inl (fun j => nI (Kd j)))), (k5, .inl (cI, 501, .inl sf)), (k6, .inl (cI, 501, .inl nf)), (d0, .inr (4, [w0, w1, w2, .ref e3])), (e3, .inl (cI, 192, .inl (upd pf (n + 7) e_5)))]) [2, 3, 4, 5, 0, 1] rfl
  have hD := hD.sub (ws' := [(h0, .inr (6, [.ref d0, .int e_2, .int e_3, .int lp, .ref k4, .ref k5, .ref k6, v7, .int (nI e_4), v9, .int vr, .int e_5])), (k4, .inl (cI, 501, .inl (fun j => nI (Kd j)))), (k5, .inl (cI, 501, .inl sf)), (k6, .inl (cI, 501, .inl nf)), (d0, .inr (4, [w0, w1, w2, .ref e3])), (e3, .inl (cI, 192, .inl (upd pf (n + 7) e_5)))]) [2, 3, 4, 5, 0, 1] (by decide) rfl
  exact gx_zret (w' := [(h0, .inr (6, [.ref d0, .int e_2, .int e_3, .int lp, .ref k4, .ref k5, .ref k6, v7, .int (nI e_4), v9, .int vr, .int e_5])), (k4, .inl (cI, 501, .inl (fun j => nI (Kd j)))), (k5, .inl (cI, 501, .inl sf)), (k6, .inl (cI, 501, .inl nf)), (d0, .inr (4, [w0, w1, w2, .ref e3])), (e3, .inl (cI, 192, .inl (upd pf (n + 7) e_5)))]) hx hb hr hlk hK hP hD hS (Nat.le_of_ble_eq_true rfl) (Nat.le_of_ble_eq_true rfl) dX6_readPart_84 (gy_z01 (gTkz hpz)) ⟨e_1, e_2, e_3, e_4, e_5, hpz, hpt, rfl, rfl⟩
def wsP_c_partV : List Cond := .code yX6_readPart cX6_readPart 5 (some .boolean) :: (([.methodLink RX6 111 yX6_takeVal, .instanceMethod yX6_takeVal, .selects RX6 yX6_takeVal yX6_takeVal, .initialized RX6, .fieldLink RX6 12 "LitmusHall$Reader" "draft" "LLitmusHall$Program;", .fieldLink RX6 168 "LitmusHall$Program" "parts" "[I", .fieldLink RX6 122 "LitmusHall$Reader" "valueReg" "I", .fieldLink RX6 108 "LitmusHall$Reader" "value" "I"] ++ wsX60 ++ wsX40) ++ (wsP_c_takeVal1 ++ []))
theorem gW_c_partV : wsP_c_partV.all goodWord = true := by unfold wsP_c_partV; exact gw_mk (by decide +kernel) (gw_app gW_c_takeVal1 rfl)
set_option maxRecDepth 20000 in
theorem gP_c_partV__c_takeVal1 : GoodIn wsP_c_partV (wsV RX6 111 RX6 yX6_takeVal wsP_c_takeVal1) := gw_in (pre := [.methodLink RX6 111 yX6_takeVal, .instanceMethod yX6_takeVal, .selects RX6 yX6_takeVal yX6_takeVal, .initialized RX6]) (by decide +kernel) (fun _ h => List.mem_cons_of_mem _ (List.mem_append_right _ (List.mem_append_left _ h))) gW_c_takeVal1
set_option maxHeartbeats 4000000 in
set_option maxRecDepth 100000 in
theorem c_partV (l : Launch) (D : va_G) (cI cB cZ : ClassId) (h0 : Nat) (d0 : Nat) (e3 : Nat) (k4 : Nat) (k5 : Nat) (k6 : Nat) (v7 : Value) (v9 : Value) (w0 : Value) (w1 : Value) (w2 : Value) (pv : Int32) (fv : Int32) (Kd : Nat → Nat) (sf : Nat → Int32) (nf : Nat → Int32) (t : Nat) (lp : Int32) (vr : Int32) (vl : Int32) (pf : Nat → Int32) (n : Nat) (ht : t ≤ 500) (hR : gRdI Kd nf sf) (hn : n + 8 ≤ 192) : gMi l yX6_readPart wsP_c_partV ({ frames := 3, cells := 0, slots := 0, locals := 64 }) D cI cB cZ [] [.ref h0, .int (nI n), .int 86] [(h0, .inr (6, [.ref d0, .int pv, .int fv, .int lp, .ref k4, .ref k5, .ref k6, v7, .int (nI t), v9, .int vr, .int vl])), (k4, .inl (cI, 501, .inl (fun j => nI (Kd j)))), (k5, .inl (cI, 501, .inl sf)), (k6, .inl (cI, 501, .inl nf)), (d0, .inr (4, [w0, w1, w2, .ref e3])), (e3, .inl (cI, 192, .inl pf))] (fun r9 w9 => ∃ z : Int32, ∃ pv9 : Int32, ∃ fv9 : Int32, ∃ t9 : Nat, ∃ vr9 : Int32, ∃ vl9 : Int32, ((z = 0 ∧ ¬ fv9 = 0) ∨ (z = 1 ∧ fv9 = fv ∧ t < t9 ∧ (vr9 = (-1) ∨ ∃ r, r < 3 ∧ vr9 = nI r))) ∧ (t ≤ t9 ∧ t9 ≤ 500) ∧ r9 = z ∧ w9 = [(h0, .inr (6, [.ref d0, .int pv9, .int fv9, .int lp, .ref k4, .ref k5, .ref k6, v7, .int (nI t9), v9, .int vr9, .int vl9])), (k4, .inl (cI, 501, .inl (fun j => nI (Kd j)))), (k5, .inl (cI, 501, .inl sf)), (k6, .inl (cI, 501, .inl nf)), (d0, .inr (4, [w0, w1, w2, .ref e3])), (e3, .inl (cI, 192, .inl (upd (upd pf (n + 3) vr9) ((n + 3) + 1) vl9)))]) := by
  refine gMi.of (cc := cX6_readPart) (maxL := 5) (ret := (some .boolean)) (by decide) rfl (Nat.le_of_ble_eq_true rfl) (fun p e s m below meth c A ls hx hb hr hlk hml hts hown hin hA hP hK hD hS hN hl => ?_)
  have hown : s.vm.findClass RX6 = some m.cls := hown
  have hl : lv_has ls 5 [(0, .ref h0), (1, .int (nI n)), (2, .int 86)] := hl
  refine lv_iload_n hx hb dX6_readPart_0 rfl (lv_at hl 2 rfl) ?_
  refine lv_bipush (v := 82) hx hb dX6_readPart_1 (by decide) ?_
  refine lv_icmp_ne (tgt := 28) hx hb dX6_readPart_3 (by decide) (fun _ => ?_) (fun c9 => absurd c9 (by decide))
  refine lv_iload_n hx hb dX6_readPart_28 rfl (lv_at hl 2 rfl) ?_
  refine lv_bipush (v := 67) hx hb dX6_readPart_29 (by decide) ?_
  refine lv_icmp_ne (tgt := 56) hx hb dX6_readPart_31 (by decide) (fun _ => ?_) (fun c9 => absurd c9 (by decide))
  refine lv_iload_n hx hb dX6_readPart_56 rfl (lv_at hl 2 rfl) ?_
  refine lv_bipush (v := 83) hx hb dX6_readPart_57 (by decide) ?_
  refine lv_icmp_ne (tgt := 85) hx hb dX6_readPart_59 (by decide) (fun _ => ?_) (fun c9 => absurd c9 (by decide))
  refine lv_iload_n hx hb dX6_readPart_85 rfl (lv_at hl 2 rfl) ?_
  refine lv_bipush (v := 86) hx hb dX6_readPart_86 (by decide) ?_
  refine lv_icmp_ne (tgt := 95) hx hb dX6_readPart_88 (by decide) (fun c9 => absurd (by decide) c9) (fun _ => ?_)
  refine lv_iconst (v := 3) hx hb dX6_readPart_91 (by decide) ?_
  refine lv_goto (tgt := 96) hx hb dX6_readPart_92 (by decide) ?_
  refine lv_istore_n (lv' := [(3, .int 3), (0, .ref h0), (1, .int (nI n)), (2, .int 86)]) hx hb dX6_readPart_96 rfl hl (by decide) rfl (fun ls hl => ?_)
  refine lv_aload_n hx hb dX6_readPart_97 rfl (lv_at hl 1 rfl) ?_
  refine lv_iconst (v := 1) hx hb dX6_readPart_98 (by decide) ?_
  refine gx_goi (wc := [(h0, .inr (6, [.ref d0, .int pv, .int fv, .int lp, .ref k4, .ref k5, .ref k6, v7, .int (nI t), v9, .int vr, .int vl])), (k4, .inl (cI, 501, .inl (fun j => nI (Kd j)))), (k5, .inl (cI, 501, .inl sf)), (k6, .inl (cI, 501, .inl nf))]) (wr := [(d0, .inr (4, [w0, w1, w2, .ref e3])), (e3, .inl (cI, 192, .inl pf))]) (va_runV (As := [.int 1]) (rest := []) ⟨hx, hb, hml, hown, hts⟩ (c_takeVal1 l D cI cB cZ h0 k4 k5 k6 (.ref d0) (.int lp) (v7) (v9) pv fv Kd sf nf t vl vr (by omega) hR _) (cwV 1 hts gP_c_partV__c_takeVal1 rfl rfl rfl (by decide +kernel) ⟨Nat.le_of_ble_eq_true rfl, Nat.le_of_ble_eq_true rfl⟩) (gx_preV (ci := 6) (q0 := 0) hK gN.nil hP hD [0, 1, 2, 3] rfl rfl rfl rfl) rfl rfl hl.1 rfl (lv_room (Nat.le_of_ble_eq_true rfl)) dX6_readPart_99 ⟨Nat.le_of_ble_eq_true rfl, Nat.le_of_ble_eq_true rfl⟩) hP hD hS hA [0, 1, 2, 3] [4, 5] rfl rfl rfl (by decide) (fun r1 w1 H locs hp hP hD hS => ?_)
  obtain ⟨e_1, e_2, e_3, e_4, e_5, e_6, hq_7, hq_8, h9, rfl⟩ := hp
  have h9 := h9.symm
  subst h9
  have hq_7 : (e_1 = 0 ∧ ¬ e_3 = 0) ∨ (e_1 = 1 ∧ e_3 = fv ∧ t < e_4 ∧ (e_6 = (-1) ∨ ∃ r, r < 3 ∧ e_6 = nI r)) := hq_7
  have hq_8 : t ≤ e_4 ∧ e_4 ≤ 500 := hq_8
  have hP : va_P D vwCl [(d0, .inr (4, [w0, w1, w2, .ref e3])), (e3, .inl (cI, 192, .inl pf)), (h0, .inr (6, [.ref d0, .int e_2, .int e_3, .int lp, .ref k4, .ref k5, .ref k6, v7, .int (nI e_4), v9, .int e_6, .int e_5])), (k4, .inl (cI, 501, .inl (fun j => nI (Kd j)))), (k5, .inl (cI, 501, .inl sf)), (k6, .inl (cI, 501, .inl nf))] H := hP
  have hD : va_D A [(d0, .inr (4, [w0, w1, w2, .ref e3])), (e3, .inl (cI, 192, .inl pf)), (h0, .inr (6, [.ref d0, .int e_2, .int e_3, .int lp, .ref k4, .ref k5, .ref k6, v7, .int (nI e_4), v9, .int e_6, .int e_5])), (k4, .inl (cI, 501, .inl (fun j => nI (Kd j)))), (k5, .inl (cI, 501, .inl sf)), (k6, .inl (cI, 501, .inl nf))] := hD
  have hpz := hq_7
  have hpt := hq_8
  refine lv_istore (lv' := [(4, .int e_1), (3, .int 3), (0, .ref h0), (1, .int (nI n)), (2, .int 86)]) hx hb dX6_readPart_102 hl (by decide) rfl (fun ls hl => ?_)
  refine lv_aload_n hx hb dX6_readPart_104 rfl (lv_at hl 2 rfl) ?_
  refine va_get (D := D) (ci := 6) (v := .ref d0) (C := RX6) (T := TX6) (N := 12) hx hb hts (fun _ h => List.mem_cons_of_mem _ (List.mem_append_left _ (List.mem_append_left _ (List.mem_append_right _ h)))) hown hK hP 2 rfl rfl 0 (by decide) (hts (.fieldLink RX6 12 "LitmusHall$Reader" "draft" "LLitmusHall$Program;") (by decide +kernel)) (fun _ h9 => h9) rfl dX6_readPart_105 ?_
  refine va_get (D := D) (ci := 4) (v := .ref e3) (C := RX4) (T := TX4) (N := 4) hx hb hts (fun _ h => List.mem_cons_of_mem _ (List.mem_append_left _ (List.mem_append_right _ h))) hown hK hP 0 rfl rfl 3 (by decide) (hts (.fieldLink RX6 168 "LitmusHall$Program" "parts" "[I") (by decide +kernel)) (fun _ h9 => h9) rfl dX6_readPart_108 ?_
  refine lv_iload_n hx hb dX6_readPart_111 rfl (lv_at hl 3 rfl) ?_
  refine lv_iload_n hx hb dX6_readPart_112 rfl (lv_at hl 1 rfl) ?_
  refine lv_iadd hx hb dX6_readPart_113 ?_
  refine gx_top (y := nI (n + 3)) (nI_add n 3) ?_
  refine lv_aload_n hx hb dX6_readPart_114 rfl (lv_at hl 2 rfl) ?_
  refine va_get (D := D) (ci := 6) (v := .int e_6) (C := RX6) (T := TX6) (N := 12) hx hb hts (fun _ h => List.mem_cons_of_mem _ (List.mem_append_left _ (List.mem_append_left _ (List.mem_append_right _ h)))) hown hK hP 2 rfl rfl 10 (by decide) (hts (.fieldLink RX6 122 "LitmusHall$Reader" "valueReg" "I") (by decide +kernel)) (fun _ h9 => h9) rfl dX6_readPart_115 ?_
  refine gy_ist (i := (n + 3)) hx hb hK hP hD hS 1 rfl (by omega) (by omega) dX6_readPart_118 (fun H locs hP hD hS => ?_)
  have hP : va_P D vwCl [(d0, .inr (4, [w0, w1, w2, .ref e3])), (e3, .inl (cI, 192, .inl (upd pf (n + 3) e_6))), (h0, .inr (6, [.ref d0, .int e_2, .int e_3, .int lp, .ref k4, .ref k5, .ref k6, v7, .int (nI e_4), v9, .int e_6, .int e_5])), (k4, .inl (cI, 501, .inl (fun j => nI (Kd j)))), (k5, .inl (cI, 501, .inl sf)), (k6, .inl (cI, 501, .inl nf))] H := hP
  have hD : va_D A [(d0, .inr (4, [w0, w1, w2, .ref e3])), (e3, .inl (cI, 192, .inl (upd pf (n + 3) e_6))), (h0, .inr (6, [.ref d0, .int e_2, .int e_3, .int lp, .ref k4, .ref k5, .ref k6, v7, .int (nI e_4), v9, .int e_6, .int e_5])), (k4, .inl (cI, 501, .inl (fun j => nI (Kd j)))), (k5, .inl (cI, 501, .inl sf)), (k6, .inl (cI, 501, .inl nf))] := hD
  refine lv_aload_n hx hb dX6_readPart_119 rfl (lv_at hl 2 rfl) ?_
  refine va_get (D := D) (ci := 6) (v := .ref d0) (C := RX6) (T := TX6) (N := 12) hx hb hts (fun _ h => List.mem_cons_of_mem _ (List.mem_append_left _ (List.mem_append_left _ (List.mem_append_right _ h)))) hown hK hP 2 rfl rfl 0 (by decide) (hts (.fieldLink RX6 12 "LitmusHall$Reader" "draft" "LLitmusHall$Program;") (by decide +kernel)) (fun _ h9 => h9) rfl dX6_readPart_120 ?_
  refine va_get (D := D) (ci := 4) (v := .ref e3) (C := RX4) (T := TX4) (N := 4) hx hb hts (fun _ h => List.mem_cons_of_mem _ (List.mem_append_left _ (List.mem_append_right _ h))) hown hK hP 0 rfl rfl 3 (by decide) (hts (.fieldLink RX6 168 "LitmusHall$Program" "parts" "[I") (by decide +kernel)) (fun _ h9 => h9) rfl dX6_readPart_123 ?_
  refine lv_iload_n hx hb dX6_readPart_126 rfl (lv_at hl 3 rfl) ?_
  refine lv_iload_n hx hb dX6_readPart_127 rfl (lv_at hl 1 rfl) ?_
  refine lv_iadd hx hb dX6_readPart_128 ?_
  refine gx_top (y := nI (n + 3)) (nI_add n 3) ?_
  refine lv_iconst (v := 1) hx hb dX6_readPart_129 (by decide) ?_
  refine lv_iadd hx hb dX6_readPart_130 ?_
  refine gx_top (y := nI ((n + 3) + 1)) (nI_add (n + 3) 1) ?_
  refine lv_aload_n hx hb dX6_readPart_131 rfl (lv_at hl 2 rfl) ?_
  refine va_get (D := D) (ci := 6) (v := .int e_5) (C := RX6) (T := TX6) (N := 12) hx hb hts (fun _ h => List.mem_cons_of_mem _ (List.mem_append_left _ (List.mem_append_left _ (List.mem_append_right _ h)))) hown hK hP 2 rfl rfl 11 (by decide) (hts (.fieldLink RX6 108 "LitmusHall$Reader" "value" "I") (by decide +kernel)) (fun _ h9 => h9) rfl dX6_readPart_132 ?_
  refine gy_ist (i := ((n + 3) + 1)) hx hb hK hP hD hS 1 rfl (by omega) (by omega) dX6_readPart_135 (fun H locs hP hD hS => ?_)
  have hP : va_P D vwCl [(d0, .inr (4, [w0, w1, w2, .ref e3])), (e3, .inl (cI, 192, .inl (upd (upd pf (n + 3) e_6) ((n + 3) + 1) e_5))), (h0, .inr (6, [.ref d0, .int e_2, .int e_3, .int lp, .ref k4, .ref k5, .ref k6, v7, .int (nI e_4), v9, .int e_6, .int e_5])), (k4, .inl (cI, 501, .inl (fun j => nI (Kd j)))), (k5, .inl (cI, 501, .inl sf)), (k6, .inl (cI, 501, .inl nf))] H := hP
  have hD : va_D A [(d0, .inr (4, [w0, w1, w2, .ref e3])), (e3, .inl (cI, 192, .inl (upd (upd pf (n + 3) e_6) ((n + 3) + 1) e_5))), (h0, .inr (6, [.ref d0, .int e_2, .int e_3, .int lp, .ref k4, .ref k5, .ref k6, v7, .int (nI e_4), v9, .int e_6, .int e_5])), (k4, .inl (cI, 501, .inl (fun j => nI (Kd j)))), (k5, .inl (cI, 501, .inl sf)), (k6, .inl (cI, 501, .inl nf))] := hD
  refine lv_iload hx hb dX6_readPart_136 (lv_at hl 0 rfl) ?_
  have hP := hP.sub (ws' := [(h0, .inr (6, [.ref d0, .int e_2, .int e_3, .int lp, .ref k4, .ref k5, .ref k6, v7, .int (nI e_4), v9, .int e_6, .int e_5])), (k4, .inl (cI, 501, .inl (fun j => nI (Kd j)))), (k5, .inl (cI, 501, .inl sf)), (k6, .inl (cI, 501, .inl nf)), (d0, .inr (4, [w0, w1, w2, .ref e3])), (e3, .inl (cI, 192, .inl (upd (upd pf (n + 3) e_6) ((n + 3) + 1) e_5)))]) [2, 3, 4, 5, 0, 1] rfl
  have hD := hD.sub (ws' := [(h0, .inr (6, [.ref d0, .int e_2, .int e_3, .int lp, .ref k4, .ref k5, .ref k6, v7, .int (nI e_4), v9, .int e_6, .int e_5])), (k4, .inl (cI, 501, .inl (fun j => nI (Kd j)))), (k5, .inl (cI, 501, .inl sf)), (k6, .inl (cI, 501, .inl nf)), (d0, .inr (4, [w0, w1, w2, .ref e3])), (e3, .inl (cI, 192, .inl (upd (upd pf (n + 3) e_6) ((n + 3) + 1) e_5)))]) [2, 3, 4, 5, 0, 1] (by decide) rfl
  exact gx_zret (w' := [(h0, .inr (6, [.ref d0, .int e_2, .int e_3, .int lp, .ref k4, .ref k5, .ref k6, v7, .int (nI e_4), v9, .int e_6, .int e_5])), (k4, .inl (cI, 501, .inl (fun j => nI (Kd j)))), (k5, .inl (cI, 501, .inl sf)), (k6, .inl (cI, 501, .inl nf)), (d0, .inr (4, [w0, w1, w2, .ref e3])), (e3, .inl (cI, 192, .inl (upd (upd pf (n + 3) e_6) ((n + 3) + 1) e_5)))]) hx hb hr hlk hK hP hD hS (Nat.le_of_ble_eq_true rfl) (Nat.le_of_ble_eq_true rfl) dX6_readPart_138 (gy_z01 (gTkz hpz)) ⟨e_1, e_2, e_3, e_4, e_6, e_5, hpz, hpt, rfl, rfl⟩
def wsP_c_partW : List Cond := .code yX6_readPart cX6_readPart 5 (some .boolean) :: (([.methodLink RX6 111 yX6_takeVal, .instanceMethod yX6_takeVal, .selects RX6 yX6_takeVal yX6_takeVal, .initialized RX6, .fieldLink RX6 12 "LitmusHall$Reader" "draft" "LLitmusHall$Program;", .fieldLink RX6 168 "LitmusHall$Program" "parts" "[I", .fieldLink RX6 122 "LitmusHall$Reader" "valueReg" "I", .fieldLink RX6 108 "LitmusHall$Reader" "value" "I"] ++ wsX60 ++ wsX40) ++ (wsP_c_takeVal1 ++ []))
theorem gW_c_partW : wsP_c_partW.all goodWord = true := by unfold wsP_c_partW; exact gw_mk (by decide +kernel) (gw_app gW_c_takeVal1 rfl)
set_option maxRecDepth 20000 in
theorem gP_c_partW__c_takeVal1 : GoodIn wsP_c_partW (wsV RX6 111 RX6 yX6_takeVal wsP_c_takeVal1) := gw_in (pre := [.methodLink RX6 111 yX6_takeVal, .instanceMethod yX6_takeVal, .selects RX6 yX6_takeVal yX6_takeVal, .initialized RX6]) (by decide +kernel) (fun _ h => List.mem_cons_of_mem _ (List.mem_append_right _ (List.mem_append_left _ h))) gW_c_takeVal1
set_option maxHeartbeats 4000000 in
set_option maxRecDepth 100000 in
theorem c_partW (l : Launch) (D : va_G) (cI cB cZ : ClassId) (h0 : Nat) (d0 : Nat) (e3 : Nat) (k4 : Nat) (k5 : Nat) (k6 : Nat) (v7 : Value) (v9 : Value) (w0 : Value) (w1 : Value) (w2 : Value) (pv : Int32) (fv : Int32) (Kd : Nat → Nat) (sf : Nat → Int32) (nf : Nat → Int32) (t : Nat) (lp : Int32) (vr : Int32) (vl : Int32) (pf : Nat → Int32) (n : Nat) (ht : t ≤ 500) (hR : gRdI Kd nf sf) (hn : n + 8 ≤ 192) : gMi l yX6_readPart wsP_c_partW ({ frames := 3, cells := 0, slots := 0, locals := 64 }) D cI cB cZ [] [.ref h0, .int (nI n), .int 87] [(h0, .inr (6, [.ref d0, .int pv, .int fv, .int lp, .ref k4, .ref k5, .ref k6, v7, .int (nI t), v9, .int vr, .int vl])), (k4, .inl (cI, 501, .inl (fun j => nI (Kd j)))), (k5, .inl (cI, 501, .inl sf)), (k6, .inl (cI, 501, .inl nf)), (d0, .inr (4, [w0, w1, w2, .ref e3])), (e3, .inl (cI, 192, .inl pf))] (fun r9 w9 => ∃ z : Int32, ∃ pv9 : Int32, ∃ fv9 : Int32, ∃ t9 : Nat, ∃ vr9 : Int32, ∃ vl9 : Int32, ((z = 0 ∧ ¬ fv9 = 0) ∨ (z = 1 ∧ fv9 = fv ∧ t < t9 ∧ (vr9 = (-1) ∨ ∃ r, r < 3 ∧ vr9 = nI r))) ∧ (t ≤ t9 ∧ t9 ≤ 500) ∧ r9 = z ∧ w9 = [(h0, .inr (6, [.ref d0, .int pv9, .int fv9, .int lp, .ref k4, .ref k5, .ref k6, v7, .int (nI t9), v9, .int vr9, .int vl9])), (k4, .inl (cI, 501, .inl (fun j => nI (Kd j)))), (k5, .inl (cI, 501, .inl sf)), (k6, .inl (cI, 501, .inl nf)), (d0, .inr (4, [w0, w1, w2, .ref e3])), (e3, .inl (cI, 192, .inl (upd (upd pf (n + 5) vr9) ((n + 5) + 1) vl9)))]) := by
  refine gMi.of (cc := cX6_readPart) (maxL := 5) (ret := (some .boolean)) (by decide) rfl (Nat.le_of_ble_eq_true rfl) (fun p e s m below meth c A ls hx hb hr hlk hml hts hown hin hA hP hK hD hS hN hl => ?_)
  have hown : s.vm.findClass RX6 = some m.cls := hown
  have hl : lv_has ls 5 [(0, .ref h0), (1, .int (nI n)), (2, .int 87)] := hl
  refine lv_iload_n hx hb dX6_readPart_0 rfl (lv_at hl 2 rfl) ?_
  refine lv_bipush (v := 82) hx hb dX6_readPart_1 (by decide) ?_
  refine lv_icmp_ne (tgt := 28) hx hb dX6_readPart_3 (by decide) (fun _ => ?_) (fun c9 => absurd c9 (by decide))
  refine lv_iload_n hx hb dX6_readPart_28 rfl (lv_at hl 2 rfl) ?_
  refine lv_bipush (v := 67) hx hb dX6_readPart_29 (by decide) ?_
  refine lv_icmp_ne (tgt := 56) hx hb dX6_readPart_31 (by decide) (fun _ => ?_) (fun c9 => absurd c9 (by decide))
  refine lv_iload_n hx hb dX6_readPart_56 rfl (lv_at hl 2 rfl) ?_
  refine lv_bipush (v := 83) hx hb dX6_readPart_57 (by decide) ?_
  refine lv_icmp_ne (tgt := 85) hx hb dX6_readPart_59 (by decide) (fun _ => ?_) (fun c9 => absurd c9 (by decide))
  refine lv_iload_n hx hb dX6_readPart_85 rfl (lv_at hl 2 rfl) ?_
  refine lv_bipush (v := 86) hx hb dX6_readPart_86 (by decide) ?_
  refine lv_icmp_ne (tgt := 95) hx hb dX6_readPart_88 (by decide) (fun _ => ?_) (fun c9 => absurd c9 (by decide))
  refine lv_iconst (v := 5) hx hb dX6_readPart_95 (by decide) ?_
  refine lv_istore_n (lv' := [(3, .int 5), (0, .ref h0), (1, .int (nI n)), (2, .int 87)]) hx hb dX6_readPart_96 rfl hl (by decide) rfl (fun ls hl => ?_)
  refine lv_aload_n hx hb dX6_readPart_97 rfl (lv_at hl 1 rfl) ?_
  refine lv_iconst (v := 1) hx hb dX6_readPart_98 (by decide) ?_
  refine gx_goi (wc := [(h0, .inr (6, [.ref d0, .int pv, .int fv, .int lp, .ref k4, .ref k5, .ref k6, v7, .int (nI t), v9, .int vr, .int vl])), (k4, .inl (cI, 501, .inl (fun j => nI (Kd j)))), (k5, .inl (cI, 501, .inl sf)), (k6, .inl (cI, 501, .inl nf))]) (wr := [(d0, .inr (4, [w0, w1, w2, .ref e3])), (e3, .inl (cI, 192, .inl pf))]) (va_runV (As := [.int 1]) (rest := []) ⟨hx, hb, hml, hown, hts⟩ (c_takeVal1 l D cI cB cZ h0 k4 k5 k6 (.ref d0) (.int lp) (v7) (v9) pv fv Kd sf nf t vl vr (by omega) hR _) (cwV 1 hts gP_c_partW__c_takeVal1 rfl rfl rfl (by decide +kernel) ⟨Nat.le_of_ble_eq_true rfl, Nat.le_of_ble_eq_true rfl⟩) (gx_preV (ci := 6) (q0 := 0) hK gN.nil hP hD [0, 1, 2, 3] rfl rfl rfl rfl) rfl rfl hl.1 rfl (lv_room (Nat.le_of_ble_eq_true rfl)) dX6_readPart_99 ⟨Nat.le_of_ble_eq_true rfl, Nat.le_of_ble_eq_true rfl⟩) hP hD hS hA [0, 1, 2, 3] [4, 5] rfl rfl rfl (by decide) (fun r1 w1 H locs hp hP hD hS => ?_)
  obtain ⟨e_1, e_2, e_3, e_4, e_5, e_6, hq_7, hq_8, h9, rfl⟩ := hp
  have h9 := h9.symm
  subst h9
  have hq_7 : (e_1 = 0 ∧ ¬ e_3 = 0) ∨ (e_1 = 1 ∧ e_3 = fv ∧ t < e_4 ∧ (e_6 = (-1) ∨ ∃ r, r < 3 ∧ e_6 = nI r)) := hq_7
  have hq_8 : t ≤ e_4 ∧ e_4 ≤ 500 := hq_8
  have hP : va_P D vwCl [(d0, .inr (4, [w0, w1, w2, .ref e3])), (e3, .inl (cI, 192, .inl pf)), (h0, .inr (6, [.ref d0, .int e_2, .int e_3, .int lp, .ref k4, .ref k5, .ref k6, v7, .int (nI e_4), v9, .int e_6, .int e_5])), (k4, .inl (cI, 501, .inl (fun j => nI (Kd j)))), (k5, .inl (cI, 501, .inl sf)), (k6, .inl (cI, 501, .inl nf))] H := hP
  have hD : va_D A [(d0, .inr (4, [w0, w1, w2, .ref e3])), (e3, .inl (cI, 192, .inl pf)), (h0, .inr (6, [.ref d0, .int e_2, .int e_3, .int lp, .ref k4, .ref k5, .ref k6, v7, .int (nI e_4), v9, .int e_6, .int e_5])), (k4, .inl (cI, 501, .inl (fun j => nI (Kd j)))), (k5, .inl (cI, 501, .inl sf)), (k6, .inl (cI, 501, .inl nf))] := hD
  have hpz := hq_7
  have hpt := hq_8
  refine lv_istore (lv' := [(4, .int e_1), (3, .int 5), (0, .ref h0), (1, .int (nI n)), (2, .int 87)]) hx hb dX6_readPart_102 hl (by decide) rfl (fun ls hl => ?_)
  refine lv_aload_n hx hb dX6_readPart_104 rfl (lv_at hl 2 rfl) ?_
  refine va_get (D := D) (ci := 6) (v := .ref d0) (C := RX6) (T := TX6) (N := 12) hx hb hts (fun _ h => List.mem_cons_of_mem _ (List.mem_append_left _ (List.mem_append_left _ (List.mem_append_right _ h)))) hown hK hP 2 rfl rfl 0 (by decide) (hts (.fieldLink RX6 12 "LitmusHall$Reader" "draft" "LLitmusHall$Program;") (by decide +kernel)) (fun _ h9 => h9) rfl dX6_readPart_105 ?_
  refine va_get (D := D) (ci := 4) (v := .ref e3) (C := RX4) (T := TX4) (N := 4) hx hb hts (fun _ h => List.mem_cons_of_mem _ (List.mem_append_left _ (List.mem_append_right _ h))) hown hK hP 0 rfl rfl 3 (by decide) (hts (.fieldLink RX6 168 "LitmusHall$Program" "parts" "[I") (by decide +kernel)) (fun _ h9 => h9) rfl dX6_readPart_108 ?_
  refine lv_iload_n hx hb dX6_readPart_111 rfl (lv_at hl 3 rfl) ?_
  refine lv_iload_n hx hb dX6_readPart_112 rfl (lv_at hl 1 rfl) ?_
  refine lv_iadd hx hb dX6_readPart_113 ?_
  refine gx_top (y := nI (n + 5)) (nI_add n 5) ?_
  refine lv_aload_n hx hb dX6_readPart_114 rfl (lv_at hl 2 rfl) ?_
  refine va_get (D := D) (ci := 6) (v := .int e_6) (C := RX6) (T := TX6) (N := 12) hx hb hts (fun _ h => List.mem_cons_of_mem _ (List.mem_append_left _ (List.mem_append_left _ (List.mem_append_right _ h)))) hown hK hP 2 rfl rfl 10 (by decide) (hts (.fieldLink RX6 122 "LitmusHall$Reader" "valueReg" "I") (by decide +kernel)) (fun _ h9 => h9) rfl dX6_readPart_115 ?_
  refine gy_ist (i := (n + 5)) hx hb hK hP hD hS 1 rfl (by omega) (by omega) dX6_readPart_118 (fun H locs hP hD hS => ?_)
  have hP : va_P D vwCl [(d0, .inr (4, [w0, w1, w2, .ref e3])), (e3, .inl (cI, 192, .inl (upd pf (n + 5) e_6))), (h0, .inr (6, [.ref d0, .int e_2, .int e_3, .int lp, .ref k4, .ref k5, .ref k6, v7, .int (nI e_4), v9, .int e_6, .int e_5])), (k4, .inl (cI, 501, .inl (fun j => nI (Kd j)))), (k5, .inl (cI, 501, .inl sf)), (k6, .inl (cI, 501, .inl nf))] H := hP
  have hD : va_D A [(d0, .inr (4, [w0, w1, w2, .ref e3])), (e3, .inl (cI, 192, .inl (upd pf (n + 5) e_6))), (h0, .inr (6, [.ref d0, .int e_2, .int e_3, .int lp, .ref k4, .ref k5, .ref k6, v7, .int (nI e_4), v9, .int e_6, .int e_5])), (k4, .inl (cI, 501, .inl (fun j => nI (Kd j)))), (k5, .inl (cI, 501, .inl sf)), (k6, .inl (cI, 501, .inl nf))] := hD
  refine lv_aload_n hx hb dX6_readPart_119 rfl (lv_at hl 2 rfl) ?_
  refine va_get (D := D) (ci := 6) (v := .ref d0) (C := RX6) (T := TX6) (N := 12) hx hb hts (fun _ h => List.mem_cons_of_mem _ (List.mem_append_left _ (List.mem_append_left _ (List.mem_append_right _ h)))) hown hK hP 2 rfl rfl 0 (by decide) (hts (.fieldLink RX6 12 "LitmusHall$Reader" "draft" "LLitmusHall$Program;") (by decide +kernel)) (fun _ h9 => h9) rfl dX6_readPart_120 ?_
  refine va_get (D := D) (ci := 4) (v := .ref e3) (C := RX4) (T := TX4) (N := 4) hx hb hts (fun _ h => List.mem_cons_of_mem _ (List.mem_append_left _ (List.mem_append_right _ h))) hown hK hP 0 rfl rfl 3 (by decide) (hts (.fieldLink RX6 168 "LitmusHall$Program" "parts" "[I") (by decide +kernel)) (fun _ h9 => h9) rfl dX6_readPart_123 ?_
  refine lv_iload_n hx hb dX6_readPart_126 rfl (lv_at hl 3 rfl) ?_
  refine lv_iload_n hx hb dX6_readPart_127 rfl (lv_at hl 1 rfl) ?_
  refine lv_iadd hx hb dX6_readPart_128 ?_
  refine gx_top (y := nI (n + 5)) (nI_add n 5) ?_
  refine lv_iconst (v := 1) hx hb dX6_readPart_129 (by decide) ?_
  refine lv_iadd hx hb dX6_readPart_130 ?_
  refine gx_top (y := nI ((n + 5) + 1)) (nI_add (n + 5) 1) ?_
  refine lv_aload_n hx hb dX6_readPart_131 rfl (lv_at hl 2 rfl) ?_
  refine va_get (D := D) (ci := 6) (v := .int e_5) (C := RX6) (T := TX6) (N := 12) hx hb hts (fun _ h => List.mem_cons_of_mem _ (List.mem_append_left _ (List.mem_append_left _ (List.mem_append_right _ h)))) hown hK hP 2 rfl rfl 11 (by decide) (hts (.fieldLink RX6 108 "LitmusHall$Reader" "value" "I") (by decide +kernel)) (fun _ h9 => h9) rfl dX6_readPart_132 ?_
  refine gy_ist (i := ((n + 5) + 1)) hx hb hK hP hD hS 1 rfl (by omega) (by omega) dX6_readPart_135 (fun H locs hP hD hS => ?_)
  have hP : va_P D vwCl [(d0, .inr (4, [w0, w1, w2, .ref e3])), (e3, .inl (cI, 192, .inl (upd (upd pf (n + 5) e_6) ((n + 5) + 1) e_5))), (h0, .inr (6, [.ref d0, .int e_2, .int e_3, .int lp, .ref k4, .ref k5, .ref k6, v7, .int (nI e_4), v9, .int e_6, .int e_5])), (k4, .inl (cI, 501, .inl (fun j => nI (Kd j)))), (k5, .inl (cI, 501, .inl sf)), (k6, .inl (cI, 501, .inl nf))] H := hP
  have hD : va_D A [(d0, .inr (4, [w0, w1, w2, .ref e3])), (e3, .inl (cI, 192, .inl (upd (upd pf (n + 5) e_6) ((n + 5) + 1) e_5))), (h0, .inr (6, [.ref d0, .int e_2, .int e_3, .int lp, .ref k4, .ref k5, .ref k6, v7, .int (nI e_4), v9, .int e_6, .int e_5])), (k4, .inl (cI, 501, .inl (fun j => nI (Kd j)))), (k5, .inl (cI, 501, .inl sf)), (k6, .inl (cI, 501, .inl nf))] := hD
  refine lv_iload hx hb dX6_readPart_136 (lv_at hl 0 rfl) ?_
  have hP := hP.sub (ws' := [(h0, .inr (6, [.ref d0, .int e_2, .int e_3, .int lp, .ref k4, .ref k5, .ref k6, v7, .int (nI e_4), v9, .int e_6, .int e_5])), (k4, .inl (cI, 501, .inl (fun j => nI (Kd j)))), (k5, .inl (cI, 501, .inl sf)), (k6, .inl (cI, 501, .inl nf)), (d0, .inr (4, [w0, w1, w2, .ref e3])), (e3, .inl (cI, 192, .inl (upd (upd pf (n + 5) e_6) ((n + 5) + 1) e_5)))]) [2, 3, 4, 5, 0, 1] rfl
  have hD := hD.sub (ws' := [(h0, .inr (6, [.ref d0, .int e_2, .int e_3, .int lp, .ref k4, .ref k5, .ref k6, v7, .int (nI e_4), v9, .int e_6, .int e_5])), (k4, .inl (cI, 501, .inl (fun j => nI (Kd j)))), (k5, .inl (cI, 501, .inl sf)), (k6, .inl (cI, 501, .inl nf)), (d0, .inr (4, [w0, w1, w2, .ref e3])), (e3, .inl (cI, 192, .inl (upd (upd pf (n + 5) e_6) ((n + 5) + 1) e_5)))]) [2, 3, 4, 5, 0, 1] (by decide) rfl
  exact gx_zret (w' := [(h0, .inr (6, [.ref d0, .int e_2, .int e_3, .int lp, .ref k4, .ref k5, .ref k6, v7, .int (nI e_4), v9, .int e_6, .int e_5])), (k4, .inl (cI, 501, .inl (fun j => nI (Kd j)))), (k5, .inl (cI, 501, .inl sf)), (k6, .inl (cI, 501, .inl nf)), (d0, .inr (4, [w0, w1, w2, .ref e3])), (e3, .inl (cI, 192, .inl (upd (upd pf (n + 5) e_6) ((n + 5) + 1) e_5)))]) hx hb hr hlk hK hP hD hS (Nat.le_of_ble_eq_true rfl) (Nat.le_of_ble_eq_true rfl) dX6_readPart_138 (gy_z01 (gTkz hpz)) ⟨e_1, e_2, e_3, e_4, e_6, e_5, hpz, hpt, rfl, rfl⟩
