theorem dX9_copyProgram_0 : decode cX9_copyProgram 0 = .ok (.aload_n 0, 1) := by decide +kernel
theorem dX9_copyProgram_1 : decode cX9_copyProgram 1 = .ok (.getfield 7, 3) := by decide +kernel
theorem dX9_copyProgram_10 : decode cX9_copyProgram 10 = .ok (.iaload, 1) := by decide +kernel
theorem dX9_copyProgram_100 : decode cX9_copyProgram 100 = .ok (.goto (-86), 3) := by decide +kernel
theorem dX9_copyProgram_103 : decode cX9_copyProgram 103 = .ok (.return_, 1) := by decide +kernel
theorem dX9_copyProgram_11 : decode cX9_copyProgram 11 = .ok (.iastore, 1) := by decide +kernel
theorem dX9_copyProgram_12 : decode cX9_copyProgram 12 = .ok (.iconst 0, 1) := by decide +kernel
theorem dX9_copyProgram_13 : decode cX9_copyProgram 13 = .ok (.istore_n 3, 1) := by decide +kernel
theorem dX9_copyProgram_14 : decode cX9_copyProgram 14 = .ok (.iload_n 3, 1) := by decide +kernel
theorem dX9_copyProgram_15 : decode cX9_copyProgram 15 = .ok (.iconst 3, 1) := by decide +kernel
theorem dX9_copyProgram_16 : decode cX9_copyProgram 16 = .ok (.if_icmp .ge 87, 3) := by decide +kernel
theorem dX9_copyProgram_19 : decode cX9_copyProgram 19 = .ok (.aload_n 0, 1) := by decide +kernel
theorem dX9_copyProgram_20 : decode cX9_copyProgram 20 = .ok (.getfield 13, 3) := by decide +kernel
theorem dX9_copyProgram_23 : decode cX9_copyProgram 23 = .ok (.iconst 3, 1) := by decide +kernel
theorem dX9_copyProgram_24 : decode cX9_copyProgram 24 = .ok (.iload_n 2, 1) := by decide +kernel
theorem dX9_copyProgram_25 : decode cX9_copyProgram 25 = .ok (.imul, 1) := by decide +kernel
theorem dX9_copyProgram_26 : decode cX9_copyProgram 26 = .ok (.iload_n 3, 1) := by decide +kernel
theorem dX9_copyProgram_27 : decode cX9_copyProgram 27 = .ok (.iadd, 1) := by decide +kernel
theorem dX9_copyProgram_28 : decode cX9_copyProgram 28 = .ok (.iload_n 3, 1) := by decide +kernel
theorem dX9_copyProgram_29 : decode cX9_copyProgram 29 = .ok (.aload_n 0, 1) := by decide +kernel
theorem dX9_copyProgram_30 : decode cX9_copyProgram 30 = .ok (.getfield 7, 3) := by decide +kernel
theorem dX9_copyProgram_33 : decode cX9_copyProgram 33 = .ok (.iload_n 1, 1) := by decide +kernel
theorem dX9_copyProgram_34 : decode cX9_copyProgram 34 = .ok (.iaload, 1) := by decide +kernel
theorem dX9_copyProgram_35 : decode cX9_copyProgram 35 = .ok (.if_icmp .ge 16, 3) := by decide +kernel
theorem dX9_copyProgram_38 : decode cX9_copyProgram 38 = .ok (.aload_n 0, 1) := by decide +kernel
theorem dX9_copyProgram_39 : decode cX9_copyProgram 39 = .ok (.getfield 13, 3) := by decide +kernel
theorem dX9_copyProgram_4 : decode cX9_copyProgram 4 = .ok (.iload_n 2, 1) := by decide +kernel
theorem dX9_copyProgram_42 : decode cX9_copyProgram 42 = .ok (.iconst 3, 1) := by decide +kernel
theorem dX9_copyProgram_43 : decode cX9_copyProgram 43 = .ok (.iload_n 1, 1) := by decide +kernel
theorem dX9_copyProgram_44 : decode cX9_copyProgram 44 = .ok (.imul, 1) := by decide +kernel
theorem dX9_copyProgram_45 : decode cX9_copyProgram 45 = .ok (.iload_n 3, 1) := by decide +kernel
theorem dX9_copyProgram_46 : decode cX9_copyProgram 46 = .ok (.iadd, 1) := by decide +kernel
theorem dX9_copyProgram_47 : decode cX9_copyProgram 47 = .ok (.iaload, 1) := by decide +kernel
theorem dX9_copyProgram_48 : decode cX9_copyProgram 48 = .ok (.goto 4, 3) := by decide +kernel
theorem dX9_copyProgram_5 : decode cX9_copyProgram 5 = .ok (.aload_n 0, 1) := by decide +kernel
theorem dX9_copyProgram_51 : decode cX9_copyProgram 51 = .ok (.iconst 0, 1) := by decide +kernel
theorem dX9_copyProgram_52 : decode cX9_copyProgram 52 = .ok (.iastore, 1) := by decide +kernel
theorem dX9_copyProgram_53 : decode cX9_copyProgram 53 = .ok (.iconst 0, 1) := by decide +kernel
theorem dX9_copyProgram_54 : decode cX9_copyProgram 54 = .ok (.istore 4, 2) := by decide +kernel
theorem dX9_copyProgram_56 : decode cX9_copyProgram 56 = .ok (.iload 4, 2) := by decide +kernel
theorem dX9_copyProgram_58 : decode cX9_copyProgram 58 = .ok (.bipush 12, 2) := by decide +kernel
theorem dX9_copyProgram_6 : decode cX9_copyProgram 6 = .ok (.getfield 7, 3) := by decide +kernel
theorem dX9_copyProgram_60 : decode cX9_copyProgram 60 = .ok (.if_icmp .ge 37, 3) := by decide +kernel
theorem dX9_copyProgram_63 : decode cX9_copyProgram 63 = .ok (.aload_n 0, 1) := by decide +kernel
theorem dX9_copyProgram_64 : decode cX9_copyProgram 64 = .ok (.bipush 36, 2) := by decide +kernel
theorem dX9_copyProgram_66 : decode cX9_copyProgram 66 = .ok (.iload_n 1, 1) := by decide +kernel
theorem dX9_copyProgram_67 : decode cX9_copyProgram 67 = .ok (.imul, 1) := by decide +kernel
theorem dX9_copyProgram_68 : decode cX9_copyProgram 68 = .ok (.bipush 12, 2) := by decide +kernel
theorem dX9_copyProgram_70 : decode cX9_copyProgram 70 = .ok (.iload_n 3, 1) := by decide +kernel
theorem dX9_copyProgram_71 : decode cX9_copyProgram 71 = .ok (.imul, 1) := by decide +kernel
theorem dX9_copyProgram_72 : decode cX9_copyProgram 72 = .ok (.iadd, 1) := by decide +kernel
theorem dX9_copyProgram_73 : decode cX9_copyProgram 73 = .ok (.iload 4, 2) := by decide +kernel
theorem dX9_copyProgram_75 : decode cX9_copyProgram 75 = .ok (.iadd, 1) := by decide +kernel
theorem dX9_copyProgram_76 : decode cX9_copyProgram 76 = .ok (.bipush 36, 2) := by decide +kernel
theorem dX9_copyProgram_78 : decode cX9_copyProgram 78 = .ok (.iload_n 2, 1) := by decide +kernel
theorem dX9_copyProgram_79 : decode cX9_copyProgram 79 = .ok (.imul, 1) := by decide +kernel
theorem dX9_copyProgram_80 : decode cX9_copyProgram 80 = .ok (.bipush 12, 2) := by decide +kernel
theorem dX9_copyProgram_82 : decode cX9_copyProgram 82 = .ok (.iload_n 3, 1) := by decide +kernel
theorem dX9_copyProgram_83 : decode cX9_copyProgram 83 = .ok (.imul, 1) := by decide +kernel
theorem dX9_copyProgram_84 : decode cX9_copyProgram 84 = .ok (.iadd, 1) := by decide +kernel
theorem dX9_copyProgram_85 : decode cX9_copyProgram 85 = .ok (.iload 4, 2) := by decide +kernel
theorem dX9_copyProgram_87 : decode cX9_copyProgram 87 = .ok (.iadd, 1) := by decide +kernel
theorem dX9_copyProgram_88 : decode cX9_copyProgram 88 = .ok (.invokevirtual 264, 3) := by decide +kernel
theorem dX9_copyProgram_9 : decode cX9_copyProgram 9 = .ok (.iload_n 1, 1) := by decide +kernel
theorem dX9_copyProgram_91 : decode cX9_copyProgram 91 = .ok (.iinc 4 1, 3) := by decide +kernel
theorem dX9_copyProgram_94 : decode cX9_copyProgram 94 = .ok (.goto (-38), 3) := by decide +kernel
theorem dX9_copyProgram_97 : decode cX9_copyProgram 97 = .ok (.iinc 3 1, 3) := by decide +kernel
def gCp (x x0 : Nat → Int32) (n : Nat) : Prop := (∀ j, j < n → x j = x0 (36 + j)) ∧ (∀ j, 36 ≤ j → x j = x0 j)
theorem gCp_0 {x : Nat → Int32} : gCp x x 0 := ⟨fun j h => absurd h (Nat.not_lt_zero j), fun _ _ => rfl⟩
theorem gCp_s {x x0 : Nat → Int32} {n a b : Nat} (h : gCp x x0 n) (hn : n < 36) (ha : a = n) (hb : b = 36 + n) : gCp (upd x a (x b)) x0 (n + 1) := by
  subst ha
  subst hb
  refine ⟨fun j hj => ?_, fun j hj => ?_⟩
  · by_cases e : j = a
    · subst e; rw [pk_us]; exact h.2 _ (by omega)
    · rw [pk_un e]; exact h.1 j (by omega)
  · rw [pk_un (by omega)]; exact h.2 j hj
theorem gCp_eq {x x0 : Nat → Int32} {n d : Nat} (h : gCp x x0 n) (e : n = d) : gCp x x0 d := e ▸ h
def gMp (m m0 : Nat → Nat) (c n : Nat) : Prop := (∀ j, j < n → m j = if j < c then m0 (3 + j) else 0) ∧ (∀ j, 3 ≤ j → m j = m0 j)
theorem gMp_0 {m : Nat → Nat} {c : Nat} : gMp m m c 0 := ⟨fun j h => absurd h (Nat.not_lt_zero j), fun _ _ => rfl⟩
theorem gMp_eq {m m0 : Nat → Nat} {c n d : Nat} (h : gMp m m0 c n) (e : n = d) : gMp m m0 c d := e ▸ h
theorem gMp_s {m m0 : Nat → Nat} {c n a v : Nat} (h : gMp m m0 c n) (hn : n < 3) (ha : a = n) (hv : v = if n < c then m0 (3 + n) else 0) : gMp (updN m a v) m0 c (n + 1) := by
  subst ha
  refine ⟨fun j hj => ?_, fun j hj => ?_⟩
  · by_cases e : j = a
    · subst e; rw [updN_s]; exact hv
    · rw [updN_n e]; exact h.1 j (by omega)
  · rw [updN_n (by omega)]; exact h.2 j hj
def wsP_c_copyProgram9 : List Cond := .code yX9_copyProgram cX9_copyProgram 5 none :: (([.fieldLink RX9 7 "LitmusHallModel" "cores" "[I", .fieldLink RX9 13 "LitmusHallModel" "many" "[I", .methodLink RX9 264 yX9_copyIns, .instanceMethod yX9_copyIns, .selects RX9 yX9_copyIns yX9_copyIns, .initialized RX9] ++ wsX90) ++ (wsP_c_copyIns9 ++ []))
theorem gW_c_copyProgram9 : wsP_c_copyProgram9.all goodWord = true := by unfold wsP_c_copyProgram9; exact gw_mk (by decide +kernel) (gw_app gW_c_copyIns9 rfl)
set_option maxRecDepth 20000 in
theorem gP_c_copyProgram9__c_copyIns9 : GoodIn wsP_c_copyProgram9 (wsV RX9 264 RX9 yX9_copyIns wsP_c_copyIns9) := gw_in (pre := [.methodLink RX9 264 yX9_copyIns, .instanceMethod yX9_copyIns, .selects RX9 yX9_copyIns yX9_copyIns, .initialized RX9]) (by decide +kernel) (fun _ h => List.mem_cons_of_mem _ (List.mem_append_right _ (List.mem_append_left _ h))) gW_c_copyIns9
set_option maxHeartbeats 4000000 in
set_option maxRecDepth 100000 in
theorem c_copyProgram9 (l : Launch) (D : va_G) (cI cB cZ : ClassId) (h0 : Nat) (a0 : Nat) (a1 : Nat) (a2 : Nat) (a3 : Nat) (a4 : Nat) (a5 : Nat) (a6 : Nat) (a7 : Nat) (a8 : Nat) (a9 : Nat) (v10 : Value) (v11 : Value) (v12 : Value) (v13 : Value) (v14 : Value) (v15 : Value) (v16 : Value) (v17 : Value) (v18 : Value) (v19 : Value) (v20 : Value) (v21 : Value) (v22 : Value) (v23 : Value) (v24 : Value) (v25 : Value) (v26 : Value) (v27 : Value) (v28 : Value) (v29 : Value) (v30 : Value) (v31 : Value) (v32 : Value) (v33 : Value) (v34 : Value) (v35 : Value) (v36 : Value) (v37 : Value) (v38 : Value) (v39 : Value) (v40 : Value) (v41 : Value) (v42 : Value) (v43 : Value) (v44 : Value) (v45 : Value) (v46 : Value) (v47 : Value) (v48 : Value) (v49 : Value) (v50 : Value) (v51 : Value) (C : Nat → Nat) (Mn : Nat → Nat) (kd : Nat → Int32) (cl : Nat → Int32) (rg : Nat → Int32) (uv1 : Nat → Int32) (ui1 : Nat → Int32) (uv2 : Nat → Int32) (ui2 : Nat → Int32) (sk : Nat → Int32) (hC : ∀ j, j < 3 → C j ≤ 3) (hM9 : ∀ j, j < 9 → Mn j ≤ 12) : gMv l yX9_copyProgram wsP_c_copyProgram9 ({ frames := 1, cells := 0, slots := 0, locals := 22 }) D cI cB cZ [] [.ref h0, .int 1, .int 0] [(h0, .inr (9, [.ref a0, .ref a1, .ref a2, .ref a3, .ref a4, .ref a5, .ref a6, .ref a7, .ref a8, .ref a9, v10, v11, v12, v13, v14, v15, v16, v17, v18, v19, v20, v21, v22, v23, v24, v25, v26, v27, v28, v29, v30, v31, v32, v33, v34, v35, v36, v37, v38, v39, v40, v41, v42, v43, v44, v45, v46, v47, v48, v49, v50, v51])), (a0, .inl (cI, 3, .inl (fun j => nI (C j)))), (a1, .inl (cI, 9, .inl (fun j => nI (Mn j)))), (a2, .inl (cI, 108, .inl kd)), (a3, .inl (cI, 108, .inl cl)), (a4, .inl (cI, 108, .inl rg)), (a5, .inl (cI, 108, .inl uv1)), (a6, .inl (cI, 108, .inl ui1)), (a7, .inl (cI, 108, .inl uv2)), (a8, .inl (cI, 108, .inl ui2)), (a9, .inl (cI, 108, .inl sk))] (fun w9 => ∃ Mn9 : Nat → Nat, ∃ kd9 : Nat → Int32, ∃ cl9 : Nat → Int32, ∃ rg9 : Nat → Int32, ∃ uv19 : Nat → Int32, ∃ ui19 : Nat → Int32, ∃ uv29 : Nat → Int32, ∃ ui29 : Nat → Int32, ∃ sk9 : Nat → Int32, (gMp Mn9 Mn (C 1) 3) ∧ (gCp kd9 kd 36) ∧ (gCp cl9 cl 36) ∧ (gCp rg9 rg 36) ∧ (gCp uv19 uv1 36) ∧ (gCp ui19 ui1 36) ∧ (gCp uv29 uv2 36) ∧ (gCp ui29 ui2 36) ∧ (gCp sk9 sk 36) ∧ w9 = [(h0, .inr (9, [.ref a0, .ref a1, .ref a2, .ref a3, .ref a4, .ref a5, .ref a6, .ref a7, .ref a8, .ref a9, v10, v11, v12, v13, v14, v15, v16, v17, v18, v19, v20, v21, v22, v23, v24, v25, v26, v27, v28, v29, v30, v31, v32, v33, v34, v35, v36, v37, v38, v39, v40, v41, v42, v43, v44, v45, v46, v47, v48, v49, v50, v51])), (a0, .inl (cI, 3, .inl (fun j => nI ((updN C 0 (C 1)) j)))), (a1, .inl (cI, 9, .inl (fun j => nI (Mn9 j)))), (a2, .inl (cI, 108, .inl kd9)), (a3, .inl (cI, 108, .inl cl9)), (a4, .inl (cI, 108, .inl rg9)), (a5, .inl (cI, 108, .inl uv19)), (a6, .inl (cI, 108, .inl ui19)), (a7, .inl (cI, 108, .inl uv29)), (a8, .inl (cI, 108, .inl ui29)), (a9, .inl (cI, 108, .inl sk9))]) := by
  refine gMv.of (cc := cX9_copyProgram) (maxL := 5) (ret := none) (by decide) rfl (Nat.le_of_ble_eq_true rfl) (fun p e s m below meth c A ls hx hb hr hlk hml hts hown hin hA hP hK hD hS hN hl => ?_)
  have hown : s.vm.findClass RX9 = some m.cls := hown
  have hl : lv_has ls 5 [(0, .ref h0), (1, .int 1), (2, .int 0)] := hl
  have hC1 := hC 1 (by omega)
  refine lv_aload_n hx hb dX9_copyProgram_0 rfl (lv_at hl 0 rfl) ?_
  refine va_get (D := D) (ci := 9) (v := .ref a0) (C := RX9) (T := TX9) (N := 52) hx hb hts (fun _ h => List.mem_cons_of_mem _ (List.mem_append_left _ (List.mem_append_right _ h))) hown hK hP 0 rfl rfl 0 (by decide) (hts (.fieldLink RX9 7 "LitmusHallModel" "cores" "[I") (by decide +kernel)) (fun _ h9 => h9) rfl dX9_copyProgram_1 ?_
  refine lv_iload_n hx hb dX9_copyProgram_4 rfl (lv_at hl 2 rfl) ?_
  refine lv_aload_n hx hb dX9_copyProgram_5 rfl (lv_at hl 0 rfl) ?_
  refine va_get (D := D) (ci := 9) (v := .ref a0) (C := RX9) (T := TX9) (N := 52) hx hb hts (fun _ h => List.mem_cons_of_mem _ (List.mem_append_left _ (List.mem_append_right _ h))) hown hK hP 0 rfl rfl 0 (by decide) (hts (.fieldLink RX9 7 "LitmusHallModel" "cores" "[I") (by decide +kernel)) (fun _ h9 => h9) rfl dX9_copyProgram_6 ?_
  refine lv_iload_n hx hb dX9_copyProgram_9 rfl (lv_at hl 1 rfl) ?_
  refine gy_ild (i := 1) hx hb hK hP 1 rfl (by omega) (by omega) dX9_copyProgram_10 ?_
  refine gx_top (y := nI (C 1)) rfl ?_
  refine gy_istN (i := 0) (v := (C 1)) hx hb hK hP hD hS 1 rfl (by omega) (by omega) dX9_copyProgram_11 (fun H locs hP hD hS => ?_)
  have hP : va_P D vwCl [(h0, .inr (9, [.ref a0, .ref a1, .ref a2, .ref a3, .ref a4, .ref a5, .ref a6, .ref a7, .ref a8, .ref a9, v10, v11, v12, v13, v14, v15, v16, v17, v18, v19, v20, v21, v22, v23, v24, v25, v26, v27, v28, v29, v30, v31, v32, v33, v34, v35, v36, v37, v38, v39, v40, v41, v42, v43, v44, v45, v46, v47, v48, v49, v50, v51])), (a0, .inl (cI, 3, .inl (fun j => nI ((updN C 0 (C 1)) j)))), (a1, .inl (cI, 9, .inl (fun j => nI (Mn j)))), (a2, .inl (cI, 108, .inl kd)), (a3, .inl (cI, 108, .inl cl)), (a4, .inl (cI, 108, .inl rg)), (a5, .inl (cI, 108, .inl uv1)), (a6, .inl (cI, 108, .inl ui1)), (a7, .inl (cI, 108, .inl uv2)), (a8, .inl (cI, 108, .inl ui2)), (a9, .inl (cI, 108, .inl sk))] H := hP
  have hD : va_D A [(h0, .inr (9, [.ref a0, .ref a1, .ref a2, .ref a3, .ref a4, .ref a5, .ref a6, .ref a7, .ref a8, .ref a9, v10, v11, v12, v13, v14, v15, v16, v17, v18, v19, v20, v21, v22, v23, v24, v25, v26, v27, v28, v29, v30, v31, v32, v33, v34, v35, v36, v37, v38, v39, v40, v41, v42, v43, v44, v45, v46, v47, v48, v49, v50, v51])), (a0, .inl (cI, 3, .inl (fun j => nI ((updN C 0 (C 1)) j)))), (a1, .inl (cI, 9, .inl (fun j => nI (Mn j)))), (a2, .inl (cI, 108, .inl kd)), (a3, .inl (cI, 108, .inl cl)), (a4, .inl (cI, 108, .inl rg)), (a5, .inl (cI, 108, .inl uv1)), (a6, .inl (cI, 108, .inl ui1)), (a7, .inl (cI, 108, .inl uv2)), (a8, .inl (cI, 108, .inl ui2)), (a9, .inl (cI, 108, .inl sk))] := hD
  refine lv_iconst (v := 0) hx hb dX9_copyProgram_12 (by decide) ?_
  refine lv_istore_n (lv' := [(3, .int 0), (0, .ref h0), (1, .int 1), (2, .int 0)]) hx hb dX9_copyProgram_13 rfl hl (by decide) rfl (fun ls hl => ?_)
  refine gy_loop0 (I := fun (x9 : Nat × (Nat → Nat) × (Nat → Int32) × (Nat → Int32) × (Nat → Int32) × (Nat → Int32) × (Nat → Int32) × (Nat → Int32) × (Nat → Int32) × (Nat → Int32)) H locs ls => (x9.1 ≤ 3) ∧ (gMp x9.2.1 Mn (C 1) x9.1) ∧ (gCp x9.2.2.1 kd (12 * x9.1)) ∧ (gCp x9.2.2.2.1 cl (12 * x9.1)) ∧ (gCp x9.2.2.2.2.1 rg (12 * x9.1)) ∧ (gCp x9.2.2.2.2.2.1 uv1 (12 * x9.1)) ∧ (gCp x9.2.2.2.2.2.2.1 ui1 (12 * x9.1)) ∧ (gCp x9.2.2.2.2.2.2.2.1 uv2 (12 * x9.1)) ∧ (gCp x9.2.2.2.2.2.2.2.2.1 ui2 (12 * x9.1)) ∧ (gCp x9.2.2.2.2.2.2.2.2.2 sk (12 * x9.1)) ∧ va_P D vwCl [(h0, .inr (9, [.ref a0, .ref a1, .ref a2, .ref a3, .ref a4, .ref a5, .ref a6, .ref a7, .ref a8, .ref a9, v10, v11, v12, v13, v14, v15, v16, v17, v18, v19, v20, v21, v22, v23, v24, v25, v26, v27, v28, v29, v30, v31, v32, v33, v34, v35, v36, v37, v38, v39, v40, v41, v42, v43, v44, v45, v46, v47, v48, v49, v50, v51])), (a0, .inl (cI, 3, .inl (fun j => nI ((updN C 0 (C 1)) j)))), (a1, .inl (cI, 9, .inl (fun j => nI (x9.2.1 j)))), (a2, .inl (cI, 108, .inl x9.2.2.1)), (a3, .inl (cI, 108, .inl x9.2.2.2.1)), (a4, .inl (cI, 108, .inl x9.2.2.2.2.1)), (a5, .inl (cI, 108, .inl x9.2.2.2.2.2.1)), (a6, .inl (cI, 108, .inl x9.2.2.2.2.2.2.1)), (a7, .inl (cI, 108, .inl x9.2.2.2.2.2.2.2.1)), (a8, .inl (cI, 108, .inl x9.2.2.2.2.2.2.2.2.1)), (a9, .inl (cI, 108, .inl x9.2.2.2.2.2.2.2.2.2))] H ∧ va_D A [(h0, .inr (9, [.ref a0, .ref a1, .ref a2, .ref a3, .ref a4, .ref a5, .ref a6, .ref a7, .ref a8, .ref a9, v10, v11, v12, v13, v14, v15, v16, v17, v18, v19, v20, v21, v22, v23, v24, v25, v26, v27, v28, v29, v30, v31, v32, v33, v34, v35, v36, v37, v38, v39, v40, v41, v42, v43, v44, v45, v46, v47, v48, v49, v50, v51])), (a0, .inl (cI, 3, .inl (fun j => nI ((updN C 0 (C 1)) j)))), (a1, .inl (cI, 9, .inl (fun j => nI (x9.2.1 j)))), (a2, .inl (cI, 108, .inl x9.2.2.1)), (a3, .inl (cI, 108, .inl x9.2.2.2.1)), (a4, .inl (cI, 108, .inl x9.2.2.2.2.1)), (a5, .inl (cI, 108, .inl x9.2.2.2.2.2.1)), (a6, .inl (cI, 108, .inl x9.2.2.2.2.2.2.1)), (a7, .inl (cI, 108, .inl x9.2.2.2.2.2.2.2.1)), (a8, .inl (cI, 108, .inl x9.2.2.2.2.2.2.2.2.1)), (a9, .inl (cI, 108, .inl x9.2.2.2.2.2.2.2.2.2))] ∧ va_S A s.heap H locs ∧ lv_has ls 5 [(3, .int (nI x9.1)), (0, .ref h0), (1, .int 1), (2, .int 0)]) (μ := fun (x9 : Nat × (Nat → Nat) × (Nat → Int32) × (Nat → Int32) × (Nat → Int32) × (Nat → Int32) × (Nat → Int32) × (Nat → Int32) × (Nat → Int32) × (Nat → Int32)) => 3 - x9.1) (fun x9 H locs ls hI ih14 => ?_) (0, Mn, kd, cl, rg, uv1, ui1, uv2, ui2, sk) ⟨(by show 0 ≤ 3; omega), gMp_0, gCp_0, gCp_0, gCp_0, gCp_0, gCp_0, gCp_0, gCp_0, gCp_0, hP, hD, hS, lv_sub hl [0, 1, 2, 3] rfl⟩
  obtain ⟨k, Mn1, kd1, cl1, rg1, uv11, ui11, uv21, ui21, sk1⟩ := x9
  obtain ⟨hi14_0, hi14_1, hi14_2, hi14_3, hi14_4, hi14_5, hi14_6, hi14_7, hi14_8, hi14_9, hP, hD, hS, hl⟩ := hI
  have hi14_0 : k ≤ 3 := hi14_0
  have hi14_1 : gMp Mn1 Mn (C 1) k := hi14_1
  have hi14_2 : gCp kd1 kd (12 * k) := hi14_2
  have hi14_3 : gCp cl1 cl (12 * k) := hi14_3
  have hi14_4 : gCp rg1 rg (12 * k) := hi14_4
  have hi14_5 : gCp uv11 uv1 (12 * k) := hi14_5
  have hi14_6 : gCp ui11 ui1 (12 * k) := hi14_6
  have hi14_7 : gCp uv21 uv2 (12 * k) := hi14_7
  have hi14_8 : gCp ui21 ui2 (12 * k) := hi14_8
  have hi14_9 : gCp sk1 sk (12 * k) := hi14_9
  have hP : va_P D vwCl [(h0, .inr (9, [.ref a0, .ref a1, .ref a2, .ref a3, .ref a4, .ref a5, .ref a6, .ref a7, .ref a8, .ref a9, v10, v11, v12, v13, v14, v15, v16, v17, v18, v19, v20, v21, v22, v23, v24, v25, v26, v27, v28, v29, v30, v31, v32, v33, v34, v35, v36, v37, v38, v39, v40, v41, v42, v43, v44, v45, v46, v47, v48, v49, v50, v51])), (a0, .inl (cI, 3, .inl (fun j => nI ((updN C 0 (C 1)) j)))), (a1, .inl (cI, 9, .inl (fun j => nI (Mn1 j)))), (a2, .inl (cI, 108, .inl kd1)), (a3, .inl (cI, 108, .inl cl1)), (a4, .inl (cI, 108, .inl rg1)), (a5, .inl (cI, 108, .inl uv11)), (a6, .inl (cI, 108, .inl ui11)), (a7, .inl (cI, 108, .inl uv21)), (a8, .inl (cI, 108, .inl ui21)), (a9, .inl (cI, 108, .inl sk1))] H := hP
  have hD : va_D A [(h0, .inr (9, [.ref a0, .ref a1, .ref a2, .ref a3, .ref a4, .ref a5, .ref a6, .ref a7, .ref a8, .ref a9, v10, v11, v12, v13, v14, v15, v16, v17, v18, v19, v20, v21, v22, v23, v24, v25, v26, v27, v28, v29, v30, v31, v32, v33, v34, v35, v36, v37, v38, v39, v40, v41, v42, v43, v44, v45, v46, v47, v48, v49, v50, v51])), (a0, .inl (cI, 3, .inl (fun j => nI ((updN C 0 (C 1)) j)))), (a1, .inl (cI, 9, .inl (fun j => nI (Mn1 j)))), (a2, .inl (cI, 108, .inl kd1)), (a3, .inl (cI, 108, .inl cl1)), (a4, .inl (cI, 108, .inl rg1)), (a5, .inl (cI, 108, .inl uv11)), (a6, .inl (cI, 108, .inl ui11)), (a7, .inl (cI, 108, .inl uv21)), (a8, .inl (cI, 108, .inl ui21)), (a9, .inl (cI, 108, .inl sk1))] := hD
  have hS : va_S A s.heap H locs := hS
  have hl : lv_has ls 5 [(3, .int (nI k)), (0, .ref h0), (1, .int 1), (2, .int 0)] := hl
  refine lv_iload_n hx hb dX9_copyProgram_14 rfl (lv_at hl 0 rfl) ?_
  refine lv_iconst (v := 3) hx hb dX9_copyProgram_15 (by decide) ?_
  refine gy_ge (a := k) (b := 3) (tgt := 103) hx hb (by omega) (by omega) dX9_copyProgram_16 (by decide) (fun c_1 => ?_) (fun c_1 => ?_)
  · exact gx_vret (w' := [(h0, .inr (9, [.ref a0, .ref a1, .ref a2, .ref a3, .ref a4, .ref a5, .ref a6, .ref a7, .ref a8, .ref a9, v10, v11, v12, v13, v14, v15, v16, v17, v18, v19, v20, v21, v22, v23, v24, v25, v26, v27, v28, v29, v30, v31, v32, v33, v34, v35, v36, v37, v38, v39, v40, v41, v42, v43, v44, v45, v46, v47, v48, v49, v50, v51])), (a0, .inl (cI, 3, .inl (fun j => nI ((updN C 0 (C 1)) j)))), (a1, .inl (cI, 9, .inl (fun j => nI (Mn1 j)))), (a2, .inl (cI, 108, .inl kd1)), (a3, .inl (cI, 108, .inl cl1)), (a4, .inl (cI, 108, .inl rg1)), (a5, .inl (cI, 108, .inl uv11)), (a6, .inl (cI, 108, .inl ui11)), (a7, .inl (cI, 108, .inl uv21)), (a8, .inl (cI, 108, .inl ui21)), (a9, .inl (cI, 108, .inl sk1))]) hx hb hr hlk hK hP hD hS (Nat.le_of_ble_eq_true rfl) (Nat.le_of_ble_eq_true rfl) dX9_copyProgram_103 ⟨Mn1, kd1, cl1, rg1, uv11, ui11, uv21, ui21, sk1, (gMp_eq (d := 3) hi14_1 (by omega)), (gCp_eq (d := 36) hi14_2 (by omega)), (gCp_eq (d := 36) hi14_3 (by omega)), (gCp_eq (d := 36) hi14_4 (by omega)), (gCp_eq (d := 36) hi14_5 (by omega)), (gCp_eq (d := 36) hi14_6 (by omega)), (gCp_eq (d := 36) hi14_7 (by omega)), (gCp_eq (d := 36) hi14_8 (by omega)), (gCp_eq (d := 36) hi14_9 (by omega)), rfl⟩
  · refine lv_aload_n hx hb dX9_copyProgram_19 rfl (lv_at hl 1 rfl) ?_
    refine va_get (D := D) (ci := 9) (v := .ref a1) (C := RX9) (T := TX9) (N := 52) hx hb hts (fun _ h => List.mem_cons_of_mem _ (List.mem_append_left _ (List.mem_append_right _ h))) hown hK hP 0 rfl rfl 1 (by decide) (hts (.fieldLink RX9 13 "LitmusHallModel" "many" "[I") (by decide +kernel)) (fun _ h9 => h9) rfl dX9_copyProgram_20 ?_
    refine lv_iconst (v := 3) hx hb dX9_copyProgram_23 (by decide) ?_
    refine lv_iload_n hx hb dX9_copyProgram_24 rfl (lv_at hl 3 rfl) ?_
    refine lv_imul hx hb dX9_copyProgram_25 ?_
    refine gx_top (y := 0) (by decide +kernel) ?_
    refine lv_iload_n hx hb dX9_copyProgram_26 rfl (lv_at hl 0 rfl) ?_
    refine lv_iadd hx hb dX9_copyProgram_27 ?_
    refine gx_top (y := nI (0 + k)) (nI_add 0 k) ?_
    refine lv_iload_n hx hb dX9_copyProgram_28 rfl (lv_at hl 0 rfl) ?_
    refine lv_aload_n hx hb dX9_copyProgram_29 rfl (lv_at hl 1 rfl) ?_
    refine va_get (D := D) (ci := 9) (v := .ref a0) (C := RX9) (T := TX9) (N := 52) hx hb hts (fun _ h => List.mem_cons_of_mem _ (List.mem_append_left _ (List.mem_append_right _ h))) hown hK hP 0 rfl rfl 0 (by decide) (hts (.fieldLink RX9 7 "LitmusHallModel" "cores" "[I") (by decide +kernel)) (fun _ h9 => h9) rfl dX9_copyProgram_30 ?_
    refine lv_iload_n hx hb dX9_copyProgram_33 rfl (lv_at hl 2 rfl) ?_
    refine gy_ild (i := 1) hx hb hK hP 1 rfl (by omega) (by omega) dX9_copyProgram_34 ?_
    refine gx_top (y := nI ((updN C 0 (C 1)) 1)) rfl ?_
    refine gx_top (y := nI (C 1)) (congrArg nI (updN_n (by decide))) ?_
    refine gy_ge (a := k) (b := (C 1)) (tgt := 51) hx hb (by omega) (by omega) dX9_copyProgram_35 (by decide) (fun c_2 => ?_) (fun c_2 => ?_)
    · have hcase := c_2
      refine lv_iconst (v := 0) hx hb dX9_copyProgram_51 (by decide) ?_
      refine gy_istN (i := (0 + k)) (v := 0) hx hb hK hP hD hS 2 rfl (by omega) (by omega) dX9_copyProgram_52 (fun H locs hP hD hS => ?_)
      have hP : va_P D vwCl [(h0, .inr (9, [.ref a0, .ref a1, .ref a2, .ref a3, .ref a4, .ref a5, .ref a6, .ref a7, .ref a8, .ref a9, v10, v11, v12, v13, v14, v15, v16, v17, v18, v19, v20, v21, v22, v23, v24, v25, v26, v27, v28, v29, v30, v31, v32, v33, v34, v35, v36, v37, v38, v39, v40, v41, v42, v43, v44, v45, v46, v47, v48, v49, v50, v51])), (a0, .inl (cI, 3, .inl (fun j => nI ((updN C 0 (C 1)) j)))), (a1, .inl (cI, 9, .inl (fun j => nI ((updN Mn1 (0 + k) 0) j)))), (a2, .inl (cI, 108, .inl kd1)), (a3, .inl (cI, 108, .inl cl1)), (a4, .inl (cI, 108, .inl rg1)), (a5, .inl (cI, 108, .inl uv11)), (a6, .inl (cI, 108, .inl ui11)), (a7, .inl (cI, 108, .inl uv21)), (a8, .inl (cI, 108, .inl ui21)), (a9, .inl (cI, 108, .inl sk1))] H := hP
      have hD : va_D A [(h0, .inr (9, [.ref a0, .ref a1, .ref a2, .ref a3, .ref a4, .ref a5, .ref a6, .ref a7, .ref a8, .ref a9, v10, v11, v12, v13, v14, v15, v16, v17, v18, v19, v20, v21, v22, v23, v24, v25, v26, v27, v28, v29, v30, v31, v32, v33, v34, v35, v36, v37, v38, v39, v40, v41, v42, v43, v44, v45, v46, v47, v48, v49, v50, v51])), (a0, .inl (cI, 3, .inl (fun j => nI ((updN C 0 (C 1)) j)))), (a1, .inl (cI, 9, .inl (fun j => nI ((updN Mn1 (0 + k) 0) j)))), (a2, .inl (cI, 108, .inl kd1)), (a3, .inl (cI, 108, .inl cl1)), (a4, .inl (cI, 108, .inl rg1)), (a5, .inl (cI, 108, .inl uv11)), (a6, .inl (cI, 108, .inl ui11)), (a7, .inl (cI, 108, .inl uv21)), (a8, .inl (cI, 108, .inl ui21)), (a9, .inl (cI, 108, .inl sk1))] := hD
      have hmp : gMp (updN Mn1 (0 + k) 0) Mn (C 1) (k + 1) := gMp_s hi14_1 (by omega) (by omega) (by first | (rw [if_pos hcase]; exact hi14_1.2 _ (by omega)) | (rw [if_neg (by omega)]; done) | (rw [if_neg (by omega)]; rfl))
      refine lv_iconst (v := 0) hx hb dX9_copyProgram_53 (by decide) ?_
      refine lv_istore (lv' := [(4, .int 0), (3, .int (nI k)), (0, .ref h0), (1, .int 1), (2, .int 0)]) hx hb dX9_copyProgram_54 hl (by decide) rfl (fun ls hl => ?_)
      refine gy_loop0 (I := fun (x9 : Nat × (Nat → Int32) × (Nat → Int32) × (Nat → Int32) × (Nat → Int32) × (Nat → Int32) × (Nat → Int32) × (Nat → Int32) × (Nat → Int32)) H locs ls => (x9.1 ≤ 12) ∧ (gCp x9.2.1 kd (12 * k + x9.1)) ∧ (gCp x9.2.2.1 cl (12 * k + x9.1)) ∧ (gCp x9.2.2.2.1 rg (12 * k + x9.1)) ∧ (gCp x9.2.2.2.2.1 uv1 (12 * k + x9.1)) ∧ (gCp x9.2.2.2.2.2.1 ui1 (12 * k + x9.1)) ∧ (gCp x9.2.2.2.2.2.2.1 uv2 (12 * k + x9.1)) ∧ (gCp x9.2.2.2.2.2.2.2.1 ui2 (12 * k + x9.1)) ∧ (gCp x9.2.2.2.2.2.2.2.2 sk (12 * k + x9.1)) ∧ va_P D vwCl [(h0, .inr (9, [.ref a0, .ref a1, .ref a2, .ref a3, .ref a4, .ref a5, .ref a6, .ref a7, .ref a8, .ref a9, v10, v11, v12, v13, v14, v15, v16, v17, v18, v19, v20, v21, v22, v23, v24, v25, v26, v27, v28, v29, v30, v31, v32, v33, v34, v35, v36, v37, v38, v39, v40, v41, v42, v43, v44, v45, v46, v47, v48, v49, v50, v51])), (a0, .inl (cI, 3, .inl (fun j => nI ((updN C 0 (C 1)) j)))), (a1, .inl (cI, 9, .inl (fun j => nI ((updN Mn1 (0 + k) 0) j)))), (a2, .inl (cI, 108, .inl x9.2.1)), (a3, .inl (cI, 108, .inl x9.2.2.1)), (a4, .inl (cI, 108, .inl x9.2.2.2.1)), (a5, .inl (cI, 108, .inl x9.2.2.2.2.1)), (a6, .inl (cI, 108, .inl x9.2.2.2.2.2.1)), (a7, .inl (cI, 108, .inl x9.2.2.2.2.2.2.1)), (a8, .inl (cI, 108, .inl x9.2.2.2.2.2.2.2.1)), (a9, .inl (cI, 108, .inl x9.2.2.2.2.2.2.2.2))] H ∧ va_D A [(h0, .inr (9, [.ref a0, .ref a1, .ref a2, .ref a3, .ref a4, .ref a5, .ref a6, .ref a7, .ref a8, .ref a9, v10, v11, v12, v13, v14, v15, v16, v17, v18, v19, v20, v21, v22, v23, v24, v25, v26, v27, v28, v29, v30, v31, v32, v33, v34, v35, v36, v37, v38, v39, v40, v41, v42, v43, v44, v45, v46, v47, v48, v49, v50, v51])), (a0, .inl (cI, 3, .inl (fun j => nI ((updN C 0 (C 1)) j)))), (a1, .inl (cI, 9, .inl (fun j => nI ((updN Mn1 (0 + k) 0) j)))), (a2, .inl (cI, 108, .inl x9.2.1)), (a3, .inl (cI, 108, .inl x9.2.2.1)), (a4, .inl (cI, 108, .inl x9.2.2.2.1)), (a5, .inl (cI, 108, .inl x9.2.2.2.2.1)), (a6, .inl (cI, 108, .inl x9.2.2.2.2.2.1)), (a7, .inl (cI, 108, .inl x9.2.2.2.2.2.2.1)), (a8, .inl (cI, 108, .inl x9.2.2.2.2.2.2.2.1)), (a9, .inl (cI, 108, .inl x9.2.2.2.2.2.2.2.2))] ∧ va_S A s.heap H locs ∧ lv_has ls 5 [(4, .int (nI x9.1)), (3, .int (nI k)), (0, .ref h0), (1, .int 1), (2, .int 0)]) (μ := fun (x9 : Nat × (Nat → Int32) × (Nat → Int32) × (Nat → Int32) × (Nat → Int32) × (Nat → Int32) × (Nat → Int32) × (Nat → Int32) × (Nat → Int32)) => 12 - x9.1) (fun x9 H locs ls hI ih56 => ?_) (0, kd1, cl1, rg1, uv11, ui11, uv21, ui21, sk1) ⟨(by show 0 ≤ 12; omega), hi14_2, hi14_3, hi14_4, hi14_5, hi14_6, hi14_7, hi14_8, hi14_9, hP, hD, hS, lv_sub hl [0, 1, 2, 3, 4] rfl⟩
      obtain ⟨i, kd2, cl2, rg2, uv12, ui12, uv22, ui22, sk2⟩ := x9
      obtain ⟨hi56_0, hi56_1, hi56_2, hi56_3, hi56_4, hi56_5, hi56_6, hi56_7, hi56_8, hP, hD, hS, hl⟩ := hI
      have hi56_0 : i ≤ 12 := hi56_0
      have hi56_1 : gCp kd2 kd (12 * k + i) := hi56_1
      have hi56_2 : gCp cl2 cl (12 * k + i) := hi56_2
      have hi56_3 : gCp rg2 rg (12 * k + i) := hi56_3
      have hi56_4 : gCp uv12 uv1 (12 * k + i) := hi56_4
      have hi56_5 : gCp ui12 ui1 (12 * k + i) := hi56_5
      have hi56_6 : gCp uv22 uv2 (12 * k + i) := hi56_6
      have hi56_7 : gCp ui22 ui2 (12 * k + i) := hi56_7
      have hi56_8 : gCp sk2 sk (12 * k + i) := hi56_8
      have hP : va_P D vwCl [(h0, .inr (9, [.ref a0, .ref a1, .ref a2, .ref a3, .ref a4, .ref a5, .ref a6, .ref a7, .ref a8, .ref a9, v10, v11, v12, v13, v14, v15, v16, v17, v18, v19, v20, v21, v22, v23, v24, v25, v26, v27, v28, v29, v30, v31, v32, v33, v34, v35, v36, v37, v38, v39, v40, v41, v42, v43, v44, v45, v46, v47, v48, v49, v50, v51])), (a0, .inl (cI, 3, .inl (fun j => nI ((updN C 0 (C 1)) j)))), (a1, .inl (cI, 9, .inl (fun j => nI ((updN Mn1 (0 + k) 0) j)))), (a2, .inl (cI, 108, .inl kd2)), (a3, .inl (cI, 108, .inl cl2)), (a4, .inl (cI, 108, .inl rg2)), (a5, .inl (cI, 108, .inl uv12)), (a6, .inl (cI, 108, .inl ui12)), (a7, .inl (cI, 108, .inl uv22)), (a8, .inl (cI, 108, .inl ui22)), (a9, .inl (cI, 108, .inl sk2))] H := hP
      have hD : va_D A [(h0, .inr (9, [.ref a0, .ref a1, .ref a2, .ref a3, .ref a4, .ref a5, .ref a6, .ref a7, .ref a8, .ref a9, v10, v11, v12, v13, v14, v15, v16, v17, v18, v19, v20, v21, v22, v23, v24, v25, v26, v27, v28, v29, v30, v31, v32, v33, v34, v35, v36, v37, v38, v39, v40, v41, v42, v43, v44, v45, v46, v47, v48, v49, v50, v51])), (a0, .inl (cI, 3, .inl (fun j => nI ((updN C 0 (C 1)) j)))), (a1, .inl (cI, 9, .inl (fun j => nI ((updN Mn1 (0 + k) 0) j)))), (a2, .inl (cI, 108, .inl kd2)), (a3, .inl (cI, 108, .inl cl2)), (a4, .inl (cI, 108, .inl rg2)), (a5, .inl (cI, 108, .inl uv12)), (a6, .inl (cI, 108, .inl ui12)), (a7, .inl (cI, 108, .inl uv22)), (a8, .inl (cI, 108, .inl ui22)), (a9, .inl (cI, 108, .inl sk2))] := hD
      have hS : va_S A s.heap H locs := hS
      have hl : lv_has ls 5 [(4, .int (nI i)), (3, .int (nI k)), (0, .ref h0), (1, .int 1), (2, .int 0)] := hl
      refine lv_iload hx hb dX9_copyProgram_56 (lv_at hl 0 rfl) ?_
      refine lv_bipush (v := 12) hx hb dX9_copyProgram_58 (by decide) ?_
      refine gy_ge (a := i) (b := 12) (tgt := 97) hx hb (by omega) (by omega) dX9_copyProgram_60 (by decide) (fun c_3 => ?_) (fun c_3 => ?_)
      · refine lv_iinc (v := nI (k + 1)) (lv' := [(3, .int (nI (k + 1))), (4, .int (nI i)), (0, .ref h0), (1, .int 1), (2, .int 0)]) hx hb dX9_copyProgram_97 hl (k := 1) rfl (nI_add k 1) (by decide) rfl (fun ls hl => ?_)
        refine lv_goto (tgt := 14) hx hb dX9_copyProgram_100 (by decide) ?_
        exact ih14 ((k + 1), (updN Mn1 (0 + k) 0), kd2, cl2, rg2, uv12, ui12, uv22, ui22, sk2) H locs ls ⟨(by show (k + 1) ≤ 3; omega), hmp, (gCp_eq (d := 12 * (k + 1)) hi56_1 (by omega)), (gCp_eq (d := 12 * (k + 1)) hi56_2 (by omega)), (gCp_eq (d := 12 * (k + 1)) hi56_3 (by omega)), (gCp_eq (d := 12 * (k + 1)) hi56_4 (by omega)), (gCp_eq (d := 12 * (k + 1)) hi56_5 (by omega)), (gCp_eq (d := 12 * (k + 1)) hi56_6 (by omega)), (gCp_eq (d := 12 * (k + 1)) hi56_7 (by omega)), (gCp_eq (d := 12 * (k + 1)) hi56_8 (by omega)), hP, hD, hS, lv_sub hl [0, 2, 3, 4] rfl⟩ (by show 3 - (k + 1) < 3 - k; omega)
      · refine lv_aload_n hx hb dX9_copyProgram_63 rfl (lv_at hl 2 rfl) ?_
        refine lv_bipush (v := 36) hx hb dX9_copyProgram_64 (by decide) ?_
        refine lv_iload_n hx hb dX9_copyProgram_66 rfl (lv_at hl 3 rfl) ?_
        refine lv_imul hx hb dX9_copyProgram_67 ?_
        refine gx_top (y := 36) (by decide +kernel) ?_
        refine lv_bipush (v := 12) hx hb dX9_copyProgram_68 (by decide) ?_
        refine lv_iload_n hx hb dX9_copyProgram_70 rfl (lv_at hl 1 rfl) ?_
        refine lv_imul hx hb dX9_copyProgram_71 ?_
        refine gx_top (y := nI (12 * k)) (pk_mul 12 k) ?_
        refine lv_iadd hx hb dX9_copyProgram_72 ?_
        refine gx_top (y := nI (36 + (12 * k))) (nI_add 36 (12 * k)) ?_
        refine lv_iload hx hb dX9_copyProgram_73 (lv_at hl 0 rfl) ?_
        refine lv_iadd hx hb dX9_copyProgram_75 ?_
        refine gx_top (y := nI ((36 + (12 * k)) + i)) (nI_add (36 + (12 * k)) i) ?_
        refine lv_bipush (v := 36) hx hb dX9_copyProgram_76 (by decide) ?_
        refine lv_iload_n hx hb dX9_copyProgram_78 rfl (lv_at hl 4 rfl) ?_
        refine lv_imul hx hb dX9_copyProgram_79 ?_
        refine gx_top (y := 0) (by decide +kernel) ?_
        refine lv_bipush (v := 12) hx hb dX9_copyProgram_80 (by decide) ?_
        refine lv_iload_n hx hb dX9_copyProgram_82 rfl (lv_at hl 1 rfl) ?_
        refine lv_imul hx hb dX9_copyProgram_83 ?_
        refine gx_top (y := nI (12 * k)) (pk_mul 12 k) ?_
        refine lv_iadd hx hb dX9_copyProgram_84 ?_
        refine gx_top (y := nI (0 + (12 * k))) (nI_add 0 (12 * k)) ?_
        refine lv_iload hx hb dX9_copyProgram_85 (lv_at hl 0 rfl) ?_
        refine lv_iadd hx hb dX9_copyProgram_87 ?_
        refine gx_top (y := nI ((0 + (12 * k)) + i)) (nI_add (0 + (12 * k)) i) ?_
        refine gx_gov (wc := [(h0, .inr (9, [.ref a0, .ref a1, .ref a2, .ref a3, .ref a4, .ref a5, .ref a6, .ref a7, .ref a8, .ref a9, v10, v11, v12, v13, v14, v15, v16, v17, v18, v19, v20, v21, v22, v23, v24, v25, v26, v27, v28, v29, v30, v31, v32, v33, v34, v35, v36, v37, v38, v39, v40, v41, v42, v43, v44, v45, v46, v47, v48, v49, v50, v51])), (a2, .inl (cI, 108, .inl kd2)), (a3, .inl (cI, 108, .inl cl2)), (a4, .inl (cI, 108, .inl rg2)), (a5, .inl (cI, 108, .inl uv12)), (a6, .inl (cI, 108, .inl ui12)), (a7, .inl (cI, 108, .inl uv22)), (a8, .inl (cI, 108, .inl ui22)), (a9, .inl (cI, 108, .inl sk2))]) (wr := [(a0, .inl (cI, 3, .inl (fun j => nI ((updN C 0 (C 1)) j)))), (a1, .inl (cI, 9, .inl (fun j => nI ((updN Mn1 (0 + k) 0) j))))]) (va_runV (As := [.int (nI ((36 + (12 * k)) + i)), .int (nI ((0 + (12 * k)) + i))]) (rest := []) ⟨hx, hb, hml, hown, hts⟩ (c_copyIns9 l D cI cB cZ h0 (.ref a0) (.ref a1) (v10) (v11) (v12) (v13) (v14) (v15) (v16) (v17) (v18) (v19) (v20) (v21) (v22) (v23) (v24) (v25) (v26) (v27) (v28) (v29) (v30) (v31) (v32) (v33) (v34) (v35) (v36) (v37) (v38) (v39) (v40) (v41) (v42) (v43) (v44) (v45) (v46) (v47) (v48) (v49) (v50) (v51) a2 a3 a4 a5 a6 a7 a8 a9 kd2 cl2 rg2 uv12 ui12 uv22 ui22 sk2 ((36 + (12 * k)) + i) ((0 + (12 * k)) + i) (by omega) (by omega) _) (cwV 2 hts gP_c_copyProgram9__c_copyIns9 rfl rfl rfl (by decide +kernel) ⟨Nat.le_of_ble_eq_true rfl, Nat.le_of_ble_eq_true rfl⟩) (gx_preV (ci := 9) (q0 := 0) hK gN.nil hP hD [0, 3, 4, 5, 6, 7, 8, 9, 10] rfl rfl rfl rfl) rfl rfl hl.1 rfl (lv_room (Nat.le_of_ble_eq_true rfl)) dX9_copyProgram_88 ⟨Nat.le_of_ble_eq_true rfl, Nat.le_of_ble_eq_true rfl⟩) hP hD hS hA [0, 3, 4, 5, 6, 7, 8, 9, 10] [1, 2] rfl rfl rfl (by decide) (fun w1 H locs hp hP hD hS => ?_)
        obtain ⟨rfl⟩ := hp
        refine lv_iinc (v := nI (i + 1)) (lv' := [(4, .int (nI (i + 1))), (3, .int (nI k)), (0, .ref h0), (1, .int 1), (2, .int 0)]) hx hb dX9_copyProgram_91 hl (k := 0) rfl (nI_add i 1) (by decide) rfl (fun ls hl => ?_)
        refine lv_goto (tgt := 56) hx hb dX9_copyProgram_94 (by decide) ?_
        have hP := hP.sub (ws' := [(h0, .inr (9, [.ref a0, .ref a1, .ref a2, .ref a3, .ref a4, .ref a5, .ref a6, .ref a7, .ref a8, .ref a9, v10, v11, v12, v13, v14, v15, v16, v17, v18, v19, v20, v21, v22, v23, v24, v25, v26, v27, v28, v29, v30, v31, v32, v33, v34, v35, v36, v37, v38, v39, v40, v41, v42, v43, v44, v45, v46, v47, v48, v49, v50, v51])), (a0, .inl (cI, 3, .inl (fun j => nI ((updN C 0 (C 1)) j)))), (a1, .inl (cI, 9, .inl (fun j => nI ((updN Mn1 (0 + k) 0) j)))), (a2, .inl (cI, 108, .inl (upd kd2 ((0 + (12 * k)) + i) (kd2 ((36 + (12 * k)) + i))))), (a3, .inl (cI, 108, .inl (upd cl2 ((0 + (12 * k)) + i) (cl2 ((36 + (12 * k)) + i))))), (a4, .inl (cI, 108, .inl (upd rg2 ((0 + (12 * k)) + i) (rg2 ((36 + (12 * k)) + i))))), (a5, .inl (cI, 108, .inl (upd uv12 ((0 + (12 * k)) + i) (uv12 ((36 + (12 * k)) + i))))), (a6, .inl (cI, 108, .inl (upd ui12 ((0 + (12 * k)) + i) (ui12 ((36 + (12 * k)) + i))))), (a7, .inl (cI, 108, .inl (upd uv22 ((0 + (12 * k)) + i) (uv22 ((36 + (12 * k)) + i))))), (a8, .inl (cI, 108, .inl (upd ui22 ((0 + (12 * k)) + i) (ui22 ((36 + (12 * k)) + i))))), (a9, .inl (cI, 108, .inl (upd sk2 ((0 + (12 * k)) + i) (sk2 ((36 + (12 * k)) + i)))))]) [2, 0, 1, 3, 4, 5, 6, 7, 8, 9, 10] rfl
        have hD := hD.sub (ws' := [(h0, .inr (9, [.ref a0, .ref a1, .ref a2, .ref a3, .ref a4, .ref a5, .ref a6, .ref a7, .ref a8, .ref a9, v10, v11, v12, v13, v14, v15, v16, v17, v18, v19, v20, v21, v22, v23, v24, v25, v26, v27, v28, v29, v30, v31, v32, v33, v34, v35, v36, v37, v38, v39, v40, v41, v42, v43, v44, v45, v46, v47, v48, v49, v50, v51])), (a0, .inl (cI, 3, .inl (fun j => nI ((updN C 0 (C 1)) j)))), (a1, .inl (cI, 9, .inl (fun j => nI ((updN Mn1 (0 + k) 0) j)))), (a2, .inl (cI, 108, .inl (upd kd2 ((0 + (12 * k)) + i) (kd2 ((36 + (12 * k)) + i))))), (a3, .inl (cI, 108, .inl (upd cl2 ((0 + (12 * k)) + i) (cl2 ((36 + (12 * k)) + i))))), (a4, .inl (cI, 108, .inl (upd rg2 ((0 + (12 * k)) + i) (rg2 ((36 + (12 * k)) + i))))), (a5, .inl (cI, 108, .inl (upd uv12 ((0 + (12 * k)) + i) (uv12 ((36 + (12 * k)) + i))))), (a6, .inl (cI, 108, .inl (upd ui12 ((0 + (12 * k)) + i) (ui12 ((36 + (12 * k)) + i))))), (a7, .inl (cI, 108, .inl (upd uv22 ((0 + (12 * k)) + i) (uv22 ((36 + (12 * k)) + i))))), (a8, .inl (cI, 108, .inl (upd ui22 ((0 + (12 * k)) + i) (ui22 ((36 + (12 * k)) + i))))), (a9, .inl (cI, 108, .inl (upd sk2 ((0 + (12 * k)) + i) (sk2 ((36 + (12 * k)) + i)))))]) [2, 0, 1, 3, 4, 5, 6, 7, 8, 9, 10] (by decide) rfl
        exact ih56 ((i + 1), (upd kd2 ((0 + (12 * k)) + i) (kd2 ((36 + (12 * k)) + i))), (upd cl2 ((0 + (12 * k)) + i) (cl2 ((36 + (12 * k)) + i))), (upd rg2 ((0 + (12 * k)) + i) (rg2 ((36 + (12 * k)) + i))), (upd uv12 ((0 + (12 * k)) + i) (uv12 ((36 + (12 * k)) + i))), (upd ui12 ((0 + (12 * k)) + i) (ui12 ((36 + (12 * k)) + i))), (upd uv22 ((0 + (12 * k)) + i) (uv22 ((36 + (12 * k)) + i))), (upd ui22 ((0 + (12 * k)) + i) (ui22 ((36 + (12 * k)) + i))), (upd sk2 ((0 + (12 * k)) + i) (sk2 ((36 + (12 * k)) + i)))) H locs ls ⟨(by show (i + 1) ≤ 12; omega), (gCp_eq (d := 12 * k + (i + 1)) (gCp_s hi56_1 (by omega) (by omega) (by omega)) (by omega)), (gCp_eq (d := 12 * k + (i + 1)) (gCp_s hi56_2 (by omega) (by omega) (by omega)) (by omega)), (gCp_eq (d := 12 * k + (i + 1)) (gCp_s hi56_3 (by omega) (by omega) (by omega)) (by omega)), (gCp_eq (d := 12 * k + (i + 1)) (gCp_s hi56_4 (by omega) (by omega) (by omega)) (by omega)), (gCp_eq (d := 12 * k + (i + 1)) (gCp_s hi56_5 (by omega) (by omega) (by omega)) (by omega)), (gCp_eq (d := 12 * k + (i + 1)) (gCp_s hi56_6 (by omega) (by omega) (by omega)) (by omega)), (gCp_eq (d := 12 * k + (i + 1)) (gCp_s hi56_7 (by omega) (by omega) (by omega)) (by omega)), (gCp_eq (d := 12 * k + (i + 1)) (gCp_s hi56_8 (by omega) (by omega) (by omega)) (by omega)), hP, hD, hS, lv_sub hl [0, 1, 2, 3, 4] rfl⟩ (by show 12 - (i + 1) < 12 - i; omega)
    · have hcase := c_2
      refine lv_aload_n hx hb dX9_copyProgram_38 rfl (lv_at hl 1 rfl) ?_
      refine va_get (D := D) (ci := 9) (v := .ref a1) (C := RX9) (T := TX9) (N := 52) hx hb hts (fun _ h => List.mem_cons_of_mem _ (List.mem_append_left _ (List.mem_append_right _ h))) hown hK hP 0 rfl rfl 1 (by decide) (hts (.fieldLink RX9 13 "LitmusHallModel" "many" "[I") (by decide +kernel)) (fun _ h9 => h9) rfl dX9_copyProgram_39 ?_
      refine lv_iconst (v := 3) hx hb dX9_copyProgram_42 (by decide) ?_
      refine lv_iload_n hx hb dX9_copyProgram_43 rfl (lv_at hl 2 rfl) ?_
      refine lv_imul hx hb dX9_copyProgram_44 ?_
      refine gx_top (y := 3) (by decide +kernel) ?_
      refine lv_iload_n hx hb dX9_copyProgram_45 rfl (lv_at hl 0 rfl) ?_
      refine lv_iadd hx hb dX9_copyProgram_46 ?_
      refine gx_top (y := nI (3 + k)) (nI_add 3 k) ?_
      refine gy_ild (i := (3 + k)) hx hb hK hP 2 rfl (by omega) (by omega) dX9_copyProgram_47 ?_
      refine gx_top (y := nI (Mn1 (3 + k))) rfl ?_
      have hM0 := hM9 (3 + k) (by omega)
      refine lv_goto (tgt := 52) hx hb dX9_copyProgram_48 (by decide) ?_
      refine gy_istN (i := (0 + k)) (v := (Mn1 (3 + k))) hx hb hK hP hD hS 2 rfl (by omega) (by omega) dX9_copyProgram_52 (fun H locs hP hD hS => ?_)
      have hP : va_P D vwCl [(h0, .inr (9, [.ref a0, .ref a1, .ref a2, .ref a3, .ref a4, .ref a5, .ref a6, .ref a7, .ref a8, .ref a9, v10, v11, v12, v13, v14, v15, v16, v17, v18, v19, v20, v21, v22, v23, v24, v25, v26, v27, v28, v29, v30, v31, v32, v33, v34, v35, v36, v37, v38, v39, v40, v41, v42, v43, v44, v45, v46, v47, v48, v49, v50, v51])), (a0, .inl (cI, 3, .inl (fun j => nI ((updN C 0 (C 1)) j)))), (a1, .inl (cI, 9, .inl (fun j => nI ((updN Mn1 (0 + k) (Mn1 (3 + k))) j)))), (a2, .inl (cI, 108, .inl kd1)), (a3, .inl (cI, 108, .inl cl1)), (a4, .inl (cI, 108, .inl rg1)), (a5, .inl (cI, 108, .inl uv11)), (a6, .inl (cI, 108, .inl ui11)), (a7, .inl (cI, 108, .inl uv21)), (a8, .inl (cI, 108, .inl ui21)), (a9, .inl (cI, 108, .inl sk1))] H := hP
      have hD : va_D A [(h0, .inr (9, [.ref a0, .ref a1, .ref a2, .ref a3, .ref a4, .ref a5, .ref a6, .ref a7, .ref a8, .ref a9, v10, v11, v12, v13, v14, v15, v16, v17, v18, v19, v20, v21, v22, v23, v24, v25, v26, v27, v28, v29, v30, v31, v32, v33, v34, v35, v36, v37, v38, v39, v40, v41, v42, v43, v44, v45, v46, v47, v48, v49, v50, v51])), (a0, .inl (cI, 3, .inl (fun j => nI ((updN C 0 (C 1)) j)))), (a1, .inl (cI, 9, .inl (fun j => nI ((updN Mn1 (0 + k) (Mn1 (3 + k))) j)))), (a2, .inl (cI, 108, .inl kd1)), (a3, .inl (cI, 108, .inl cl1)), (a4, .inl (cI, 108, .inl rg1)), (a5, .inl (cI, 108, .inl uv11)), (a6, .inl (cI, 108, .inl ui11)), (a7, .inl (cI, 108, .inl uv21)), (a8, .inl (cI, 108, .inl ui21)), (a9, .inl (cI, 108, .inl sk1))] := hD
      have hmp : gMp (updN Mn1 (0 + k) (Mn1 (3 + k))) Mn (C 1) (k + 1) := gMp_s hi14_1 (by omega) (by omega) (by first | (rw [if_pos hcase]; exact hi14_1.2 _ (by omega)) | (rw [if_neg (by omega)]; done) | (rw [if_neg (by omega)]; rfl))
      refine lv_iconst (v := 0) hx hb dX9_copyProgram_53 (by decide) ?_
      refine lv_istore (lv' := [(4, .int 0), (3, .int (nI k)), (0, .ref h0), (1, .int 1), (2, .int 0)]) hx hb dX9_copyProgram_54 hl (by decide) rfl (fun ls hl => ?_)
      refine gy_loop0 (I := fun (x9 : Nat × (Nat → Int32) × (Nat → Int32) × (Nat → Int32) × (Nat → Int32) × (Nat → Int32) × (Nat → Int32) × (Nat → Int32) × (Nat → Int32)) H locs ls => (x9.1 ≤ 12) ∧ (gCp x9.2.1 kd (12 * k + x9.1)) ∧ (gCp x9.2.2.1 cl (12 * k + x9.1)) ∧ (gCp x9.2.2.2.1 rg (12 * k + x9.1)) ∧ (gCp x9.2.2.2.2.1 uv1 (12 * k + x9.1)) ∧ (gCp x9.2.2.2.2.2.1 ui1 (12 * k + x9.1)) ∧ (gCp x9.2.2.2.2.2.2.1 uv2 (12 * k + x9.1)) ∧ (gCp x9.2.2.2.2.2.2.2.1 ui2 (12 * k + x9.1)) ∧ (gCp x9.2.2.2.2.2.2.2.2 sk (12 * k + x9.1)) ∧ va_P D vwCl [(h0, .inr (9, [.ref a0, .ref a1, .ref a2, .ref a3, .ref a4, .ref a5, .ref a6, .ref a7, .ref a8, .ref a9, v10, v11, v12, v13, v14, v15, v16, v17, v18, v19, v20, v21, v22, v23, v24, v25, v26, v27, v28, v29, v30, v31, v32, v33, v34, v35, v36, v37, v38, v39, v40, v41, v42, v43, v44, v45, v46, v47, v48, v49, v50, v51])), (a0, .inl (cI, 3, .inl (fun j => nI ((updN C 0 (C 1)) j)))), (a1, .inl (cI, 9, .inl (fun j => nI ((updN Mn1 (0 + k) (Mn1 (3 + k))) j)))), (a2, .inl (cI, 108, .inl x9.2.1)), (a3, .inl (cI, 108, .inl x9.2.2.1)), (a4, .inl (cI, 108, .inl x9.2.2.2.1)), (a5, .inl (cI, 108, .inl x9.2.2.2.2.1)), (a6, .inl (cI, 108, .inl x9.2.2.2.2.2.1)), (a7, .inl (cI, 108, .inl x9.2.2.2.2.2.2.1)), (a8, .inl (cI, 108, .inl x9.2.2.2.2.2.2.2.1)), (a9, .inl (cI, 108, .inl x9.2.2.2.2.2.2.2.2))] H ∧ va_D A [(h0, .inr (9, [.ref a0, .ref a1, .ref a2, .ref a3, .ref a4, .ref a5, .ref a6, .ref a7, .ref a8, .ref a9, v10, v11, v12, v13, v14, v15, v16, v17, v18, v19, v20, v21, v22, v23, v24, v25, v26, v27, v28, v29, v30, v31, v32, v33, v34, v35, v36, v37, v38, v39, v40, v41, v42, v43, v44, v45, v46, v47, v48, v49, v50, v51])), (a0, .inl (cI, 3, .inl (fun j => nI ((updN C 0 (C 1)) j)))), (a1, .inl (cI, 9, .inl (fun j => nI ((updN Mn1 (0 + k) (Mn1 (3 + k))) j)))), (a2, .inl (cI, 108, .inl x9.2.1)), (a3, .inl (cI, 108, .inl x9.2.2.1)), (a4, .inl (cI, 108, .inl x9.2.2.2.1)), (a5, .inl (cI, 108, .inl x9.2.2.2.2.1)), (a6, .inl (cI, 108, .inl x9.2.2.2.2.2.1)), (a7, .inl (cI, 108, .inl x9.2.2.2.2.2.2.1)), (a8, .inl (cI, 108, .inl x9.2.2.2.2.2.2.2.1)), (a9, .inl (cI, 108, .inl x9.2.2.2.2.2.2.2.2))] ∧ va_S A s.heap H locs ∧ lv_has ls 5 [(4, .int (nI x9.1)), (3, .int (nI k)), (0, .ref h0), (1, .int 1), (2, .int 0)]) (μ := fun (x9 : Nat × (Nat → Int32) × (Nat → Int32) × (Nat → Int32) × (Nat → Int32) × (Nat → Int32) × (Nat → Int32) × (Nat → Int32) × (Nat → Int32)) => 12 - x9.1) (fun x9 H locs ls hI ih56 => ?_) (0, kd1, cl1, rg1, uv11, ui11, uv21, ui21, sk1) ⟨(by show 0 ≤ 12; omega), hi14_2, hi14_3, hi14_4, hi14_5, hi14_6, hi14_7, hi14_8, hi14_9, hP, hD, hS, lv_sub hl [0, 1, 2, 3, 4] rfl⟩
      obtain ⟨i, kd2, cl2, rg2, uv12, ui12, uv22, ui22, sk2⟩ := x9
      obtain ⟨hi56_0, hi56_1, hi56_2, hi56_3, hi56_4, hi56_5, hi56_6, hi56_7, hi56_8, hP, hD, hS, hl⟩ := hI
      have hi56_0 : i ≤ 12 := hi56_0
      have hi56_1 : gCp kd2 kd (12 * k + i) := hi56_1
      have hi56_2 : gCp cl2 cl (12 * k + i) := hi56_2
      have hi56_3 : gCp rg2 rg (12 * k + i) := hi56_3
      have hi56_4 : gCp uv12 uv1 (12 * k + i) := hi56_4
      have hi56_5 : gCp ui12 ui1 (12 * k + i) := hi56_5
      have hi56_6 : gCp uv22 uv2 (12 * k + i) := hi56_6
      have hi56_7 : gCp ui22 ui2 (12 * k + i) := hi56_7
      have hi56_8 : gCp sk2 sk (12 * k + i) := hi56_8
      have hP : va_P D vwCl [(h0, .inr (9, [.ref a0, .ref a1, .ref a2, .ref a3, .ref a4, .ref a5, .ref a6, .ref a7, .ref a8, .ref a9, v10, v11, v12, v13, v14, v15, v16, v17, v18, v19, v20, v21, v22, v23, v24, v25, v26, v27, v28, v29, v30, v31, v32, v33, v34, v35, v36, v37, v38, v39, v40, v41, v42, v43, v44, v45, v46, v47, v48, v49, v50, v51])), (a0, .inl (cI, 3, .inl (fun j => nI ((updN C 0 (C 1)) j)))), (a1, .inl (cI, 9, .inl (fun j => nI ((updN Mn1 (0 + k) (Mn1 (3 + k))) j)))), (a2, .inl (cI, 108, .inl kd2)), (a3, .inl (cI, 108, .inl cl2)), (a4, .inl (cI, 108, .inl rg2)), (a5, .inl (cI, 108, .inl uv12)), (a6, .inl (cI, 108, .inl ui12)), (a7, .inl (cI, 108, .inl uv22)), (a8, .inl (cI, 108, .inl ui22)), (a9, .inl (cI, 108, .inl sk2))] H := hP
      have hD : va_D A [(h0, .inr (9, [.ref a0, .ref a1, .ref a2, .ref a3, .ref a4, .ref a5, .ref a6, .ref a7, .ref a8, .ref a9, v10, v11, v12, v13, v14, v15, v16, v17, v18, v19, v20, v21, v22, v23, v24, v25, v26, v27, v28, v29, v30, v31, v32, v33, v34, v35, v36, v37, v38, v39, v40, v41, v42, v43, v44, v45, v46, v47, v48, v49, v50, v51])), (a0, .inl (cI, 3, .inl (fun j => nI ((updN C 0 (C 1)) j)))), (a1, .inl (cI, 9, .inl (fun j => nI ((updN Mn1 (0 + k) (Mn1 (3 + k))) j)))), (a2, .inl (cI, 108, .inl kd2)), (a3, .inl (cI, 108, .inl cl2)), (a4, .inl (cI, 108, .inl rg2)), (a5, .inl (cI, 108, .inl uv12)), (a6, .inl (cI, 108, .inl ui12)), (a7, .inl (cI, 108, .inl uv22)), (a8, .inl (cI, 108, .inl ui22)), (a9, .inl (cI, 108, .inl sk2))] := hD
      have hS : va_S A s.heap H locs := hS
      have hl : lv_has ls 5 [(4, .int (nI i)), (3, .int (nI k)), (0, .ref h0), (1, .int 1), (2, .int 0)] := hl
      refine lv_iload hx hb dX9_copyProgram_56 (lv_at hl 0 rfl) ?_
      refine lv_bipush (v := 12) hx hb dX9_copyProgram_58 (by decide) ?_
      refine gy_ge (a := i) (b := 12) (tgt := 97) hx hb (by omega) (by omega) dX9_copyProgram_60 (by decide) (fun c_4 => ?_) (fun c_4 => ?_)
      · refine lv_iinc (v := nI (k + 1)) (lv' := [(3, .int (nI (k + 1))), (4, .int (nI i)), (0, .ref h0), (1, .int 1), (2, .int 0)]) hx hb dX9_copyProgram_97 hl (k := 1) rfl (nI_add k 1) (by decide) rfl (fun ls hl => ?_)
        refine lv_goto (tgt := 14) hx hb dX9_copyProgram_100 (by decide) ?_
        exact ih14 ((k + 1), (updN Mn1 (0 + k) (Mn1 (3 + k))), kd2, cl2, rg2, uv12, ui12, uv22, ui22, sk2) H locs ls ⟨(by show (k + 1) ≤ 3; omega), hmp, (gCp_eq (d := 12 * (k + 1)) hi56_1 (by omega)), (gCp_eq (d := 12 * (k + 1)) hi56_2 (by omega)), (gCp_eq (d := 12 * (k + 1)) hi56_3 (by omega)), (gCp_eq (d := 12 * (k + 1)) hi56_4 (by omega)), (gCp_eq (d := 12 * (k + 1)) hi56_5 (by omega)), (gCp_eq (d := 12 * (k + 1)) hi56_6 (by omega)), (gCp_eq (d := 12 * (k + 1)) hi56_7 (by omega)), (gCp_eq (d := 12 * (k + 1)) hi56_8 (by omega)), hP, hD, hS, lv_sub hl [0, 2, 3, 4] rfl⟩ (by show 3 - (k + 1) < 3 - k; omega)
      · refine lv_aload_n hx hb dX9_copyProgram_63 rfl (lv_at hl 2 rfl) ?_
        refine lv_bipush (v := 36) hx hb dX9_copyProgram_64 (by decide) ?_
        refine lv_iload_n hx hb dX9_copyProgram_66 rfl (lv_at hl 3 rfl) ?_
        refine lv_imul hx hb dX9_copyProgram_67 ?_
        refine gx_top (y := 36) (by decide +kernel) ?_
        refine lv_bipush (v := 12) hx hb dX9_copyProgram_68 (by decide) ?_
        refine lv_iload_n hx hb dX9_copyProgram_70 rfl (lv_at hl 1 rfl) ?_
        refine lv_imul hx hb dX9_copyProgram_71 ?_
        refine gx_top (y := nI (12 * k)) (pk_mul 12 k) ?_
        refine lv_iadd hx hb dX9_copyProgram_72 ?_
        refine gx_top (y := nI (36 + (12 * k))) (nI_add 36 (12 * k)) ?_
        refine lv_iload hx hb dX9_copyProgram_73 (lv_at hl 0 rfl) ?_
        refine lv_iadd hx hb dX9_copyProgram_75 ?_
        refine gx_top (y := nI ((36 + (12 * k)) + i)) (nI_add (36 + (12 * k)) i) ?_
        refine lv_bipush (v := 36) hx hb dX9_copyProgram_76 (by decide) ?_
        refine lv_iload_n hx hb dX9_copyProgram_78 rfl (lv_at hl 4 rfl) ?_
        refine lv_imul hx hb dX9_copyProgram_79 ?_
        refine gx_top (y := 0) (by decide +kernel) ?_
        refine lv_bipush (v := 12) hx hb dX9_copyProgram_80 (by decide) ?_
        refine lv_iload_n hx hb dX9_copyProgram_82 rfl (lv_at hl 1 rfl) ?_
        refine lv_imul hx hb dX9_copyProgram_83 ?_
        refine gx_top (y := nI (12 * k)) (pk_mul 12 k) ?_
        refine lv_iadd hx hb dX9_copyProgram_84 ?_
        refine gx_top (y := nI (0 + (12 * k))) (nI_add 0 (12 * k)) ?_
        refine lv_iload hx hb dX9_copyProgram_85 (lv_at hl 0 rfl) ?_
        refine lv_iadd hx hb dX9_copyProgram_87 ?_
        refine gx_top (y := nI ((0 + (12 * k)) + i)) (nI_add (0 + (12 * k)) i) ?_
        refine gx_gov (wc := [(h0, .inr (9, [.ref a0, .ref a1, .ref a2, .ref a3, .ref a4, .ref a5, .ref a6, .ref a7, .ref a8, .ref a9, v10, v11, v12, v13, v14, v15, v16, v17, v18, v19, v20, v21, v22, v23, v24, v25, v26, v27, v28, v29, v30, v31, v32, v33, v34, v35, v36, v37, v38, v39, v40, v41, v42, v43, v44, v45, v46, v47, v48, v49, v50, v51])), (a2, .inl (cI, 108, .inl kd2)), (a3, .inl (cI, 108, .inl cl2)), (a4, .inl (cI, 108, .inl rg2)), (a5, .inl (cI, 108, .inl uv12)), (a6, .inl (cI, 108, .inl ui12)), (a7, .inl (cI, 108, .inl uv22)), (a8, .inl (cI, 108, .inl ui22)), (a9, .inl (cI, 108, .inl sk2))]) (wr := [(a0, .inl (cI, 3, .inl (fun j => nI ((updN C 0 (C 1)) j)))), (a1, .inl (cI, 9, .inl (fun j => nI ((updN Mn1 (0 + k) (Mn1 (3 + k))) j))))]) (va_runV (As := [.int (nI ((36 + (12 * k)) + i)), .int (nI ((0 + (12 * k)) + i))]) (rest := []) ⟨hx, hb, hml, hown, hts⟩ (c_copyIns9 l D cI cB cZ h0 (.ref a0) (.ref a1) (v10) (v11) (v12) (v13) (v14) (v15) (v16) (v17) (v18) (v19) (v20) (v21) (v22) (v23) (v24) (v25) (v26) (v27) (v28) (v29) (v30) (v31) (v32) (v33) (v34) (v35) (v36) (v37) (v38) (v39) (v40) (v41) (v42) (v43) (v44) (v45) (v46) (v47) (v48) (v49) (v50) (v51) a2 a3 a4 a5 a6 a7 a8 a9 kd2 cl2 rg2 uv12 ui12 uv22 ui22 sk2 ((36 + (12 * k)) + i) ((0 + (12 * k)) + i) (by omega) (by omega) _) (cwV 2 hts gP_c_copyProgram9__c_copyIns9 rfl rfl rfl (by decide +kernel) ⟨Nat.le_of_ble_eq_true rfl, Nat.le_of_ble_eq_true rfl⟩) (gx_preV (ci := 9) (q0 := 0) hK gN.nil hP hD [0, 3, 4, 5, 6, 7, 8, 9, 10] rfl rfl rfl rfl) rfl rfl hl.1 rfl (lv_room (Nat.le_of_ble_eq_true rfl)) dX9_copyProgram_88 ⟨Nat.le_of_ble_eq_true rfl, Nat.le_of_ble_eq_true rfl⟩) hP hD hS hA [0, 3, 4, 5, 6, 7, 8, 9, 10] [1, 2] rfl rfl rfl (by decide) (fun w1 H locs hp hP hD hS => ?_)
        obtain ⟨rfl⟩ := hp
        refine lv_iinc (v := nI (i + 1)) (lv' := [(4, .int (nI (i + 1))), (3, .int (nI k)), (0, .ref h0), (1, .int 1), (2, .int 0)]) hx hb dX9_copyProgram_91 hl (k := 0) rfl (nI_add i 1) (by decide) rfl (fun ls hl => ?_)
        refine lv_goto (tgt := 56) hx hb dX9_copyProgram_94 (by decide) ?_
        have hP := hP.sub (ws' := [(h0, .inr (9, [.ref a0, .ref a1, .ref a2, .ref a3, .ref a4, .ref a5, .ref a6, .ref a7, .ref a8, .ref a9, v10, v11, v12, v13, v14, v15, v16, v17, v18, v19, v20, v21, v22, v23, v24, v25, v26, v27, v28, v29, v30, v31, v32, v33, v34, v35, v36, v37, v38, v39, v40, v41, v42, v43, v44, v45, v46, v47, v48, v49, v50, v51])), (a0, .inl (cI, 3, .inl (fun j => nI ((updN C 0 (C 1)) j)))), (a1, .inl (cI, 9, .inl (fun j => nI ((updN Mn1 (0 + k) (Mn1 (3 + k))) j)))), (a2, .inl (cI, 108, .inl (upd kd2 ((0 + (12 * k)) + i) (kd2 ((36 + (12 * k)) + i))))), (a3, .inl (cI, 108, .inl (upd cl2 ((0 + (12 * k)) + i) (cl2 ((36 + (12 * k)) + i))))), (a4, .inl (cI, 108, .inl (upd rg2 ((0 + (12 * k)) + i) (rg2 ((36 + (12 * k)) + i))))), (a5, .inl (cI, 108, .inl (upd uv12 ((0 + (12 * k)) + i) (uv12 ((36 + (12 * k)) + i))))), (a6, .inl (cI, 108, .inl (upd ui12 ((0 + (12 * k)) + i) (ui12 ((36 + (12 * k)) + i))))), (a7, .inl (cI, 108, .inl (upd uv22 ((0 + (12 * k)) + i) (uv22 ((36 + (12 * k)) + i))))), (a8, .inl (cI, 108, .inl (upd ui22 ((0 + (12 * k)) + i) (ui22 ((36 + (12 * k)) + i))))), (a9, .inl (cI, 108, .inl (upd sk2 ((0 + (12 * k)) + i) (sk2 ((36 + (12 * k)) + i)))))]) [2, 0, 1, 3, 4, 5, 6, 7, 8, 9, 10] rfl
        have hD := hD.sub (ws' := [(h0, .inr (9, [.ref a0, .ref a1, .ref a2, .ref a3, .ref a4, .ref a5, .ref a6, .ref a7, .ref a8, .ref a9, v10, v11, v12, v13, v14, v15, v16, v17, v18, v19, v20, v21, v22, v23, v24, v25, v26, v27, v28, v29, v30, v31, v32, v33, v34, v35, v36, v37, v38, v39, v40, v41, v42, v43, v44, v45, v46, v47, v48, v49, v50, v51])), (a0, .inl (cI, 3, .inl (fun j => nI ((updN C 0 (C 1)) j)))), (a1, .inl (cI, 9, .inl (fun j => nI ((updN Mn1 (0 + k) (Mn1 (3 + k))) j)))), (a2, .inl (cI, 108, .inl (upd kd2 ((0 + (12 * k)) + i) (kd2 ((36 + (12 * k)) + i))))), (a3, .inl (cI, 108, .inl (upd cl2 ((0 + (12 * k)) + i) (cl2 ((36 + (12 * k)) + i))))), (a4, .inl (cI, 108, .inl (upd rg2 ((0 + (12 * k)) + i) (rg2 ((36 + (12 * k)) + i))))), (a5, .inl (cI, 108, .inl (upd uv12 ((0 + (12 * k)) + i) (uv12 ((36 + (12 * k)) + i))))), (a6, .inl (cI, 108, .inl (upd ui12 ((0 + (12 * k)) + i) (ui12 ((36 + (12 * k)) + i))))), (a7, .inl (cI, 108, .inl (upd uv22 ((0 + (12 * k)) + i) (uv22 ((36 + (12 * k)) + i))))), (a8, .inl (cI, 108, .inl (upd ui22 ((0 + (12 * k)) + i) (ui22 ((36 + (12 * k)) + i))))), (a9, .inl (cI, 108, .inl (upd sk2 ((0 + (12 * k)) + i) (sk2 ((36 + (12 * k)) + i)))))]) [2, 0, 1, 3, 4, 5, 6, 7, 8, 9, 10] (by decide) rfl
        exact ih56 ((i + 1), (upd kd2 ((0 + (12 * k)) + i) (kd2 ((36 + (12 * k)) + i))), (upd cl2 ((0 + (12 * k)) + i) (cl2 ((36 + (12 * k)) + i))), (upd rg2 ((0 + (12 * k)) + i) (rg2 ((36 + (12 * k)) + i))), (upd uv12 ((0 + (12 * k)) + i) (uv12 ((36 + (12 * k)) + i))), (upd ui12 ((0 + (12 * k)) + i) (ui12 ((36 + (12 * k)) + i))), (upd uv22 ((0 + (12 * k)) + i) (uv22 ((36 + (12 * k)) + i))), (upd ui22 ((0 + (12 * k)) + i) (ui22 ((36 + (12 * k)) + i))), (upd sk2 ((0 + (12 * k)) + i) (sk2 ((36 + (12 * k)) + i)))) H locs ls ⟨(by show (i + 1) ≤ 12; omega), (gCp_eq (d := 12 * k + (i + 1)) (gCp_s hi56_1 (by omega) (by omega) (by omega)) (by omega)), (gCp_eq (d := 12 * k + (i + 1)) (gCp_s hi56_2 (by omega) (by omega) (by omega)) (by omega)), (gCp_eq (d := 12 * k + (i + 1)) (gCp_s hi56_3 (by omega) (by omega) (by omega)) (by omega)), (gCp_eq (d := 12 * k + (i + 1)) (gCp_s hi56_4 (by omega) (by omega) (by omega)) (by omega)), (gCp_eq (d := 12 * k + (i + 1)) (gCp_s hi56_5 (by omega) (by omega) (by omega)) (by omega)), (gCp_eq (d := 12 * k + (i + 1)) (gCp_s hi56_6 (by omega) (by omega) (by omega)) (by omega)), (gCp_eq (d := 12 * k + (i + 1)) (gCp_s hi56_7 (by omega) (by omega) (by omega)) (by omega)), (gCp_eq (d := 12 * k + (i + 1)) (gCp_s hi56_8 (by omega) (by omega) (by omega)) (by omega)), hP, hD, hS, lv_sub hl [0, 1, 2, 3, 4] rfl⟩ (by show 12 - (i + 1) < 12 - i; omega)
