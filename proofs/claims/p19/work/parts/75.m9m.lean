theorem dX9_goes_0 : decode cX9_goes 0 = .ok (.iload_n 1, 1) := by decide +kernel
theorem dX9_goes_1 : decode cX9_goes 1 = .ok (.invokestatic 267, 3) := by decide +kernel
theorem dX9_goes_101 : decode cX9_goes 101 = .ok (.iload_n 2, 1) := by decide +kernel
theorem dX9_goes_102 : decode cX9_goes 102 = .ok (.iconst 2, 1) := by decide +kernel
theorem dX9_goes_103 : decode cX9_goes 103 = .ok (.iadd, 1) := by decide +kernel
theorem dX9_goes_104 : decode cX9_goes 104 = .ok (.iconst 2, 1) := by decide +kernel
theorem dX9_goes_105 : decode cX9_goes 105 = .ok (.aload_n 0, 1) := by decide +kernel
theorem dX9_goes_106 : decode cX9_goes 106 = .ok (.getfield 75, 3) := by decide +kernel
theorem dX9_goes_109 : decode cX9_goes 109 = .ok (.iload_n 2, 1) := by decide +kernel
theorem dX9_goes_11 : decode cX9_goes 11 = .ok (.aload_n 0, 1) := by decide +kernel
theorem dX9_goes_110 : decode cX9_goes 110 = .ok (.iaload, 1) := by decide +kernel
theorem dX9_goes_111 : decode cX9_goes 111 = .ok (.imul, 1) := by decide +kernel
theorem dX9_goes_112 : decode cX9_goes 112 = .ok (.iadd, 1) := by decide +kernel
theorem dX9_goes_113 : decode cX9_goes 113 = .ok (.iconst 0, 1) := by decide +kernel
theorem dX9_goes_114 : decode cX9_goes 114 = .ok (.iastore, 1) := by decide +kernel
theorem dX9_goes_115 : decode cX9_goes 115 = .ok (.return_, 1) := by decide +kernel
theorem dX9_goes_12 : decode cX9_goes 12 = .ok (.getfield 75, 3) := by decide +kernel
theorem dX9_goes_15 : decode cX9_goes 15 = .ok (.iload_n 2, 1) := by decide +kernel
theorem dX9_goes_16 : decode cX9_goes 16 = .ok (.iconst 1, 1) := by decide +kernel
theorem dX9_goes_17 : decode cX9_goes 17 = .ok (.iadd, 1) := by decide +kernel
theorem dX9_goes_18 : decode cX9_goes 18 = .ok (.iaload, 1) := by decide +kernel
theorem dX9_goes_19 : decode cX9_goes 19 = .ok (.iadd, 1) := by decide +kernel
theorem dX9_goes_20 : decode cX9_goes 20 = .ok (.aload_n 0, 1) := by decide +kernel
theorem dX9_goes_21 : decode cX9_goes 21 = .ok (.getfield 75, 3) := by decide +kernel
theorem dX9_goes_24 : decode cX9_goes 24 = .ok (.iload_n 2, 1) := by decide +kernel
theorem dX9_goes_25 : decode cX9_goes 25 = .ok (.iconst 2, 1) := by decide +kernel
theorem dX9_goes_26 : decode cX9_goes 26 = .ok (.iadd, 1) := by decide +kernel
theorem dX9_goes_27 : decode cX9_goes 27 = .ok (.iaload, 1) := by decide +kernel
theorem dX9_goes_28 : decode cX9_goes 28 = .ok (.iastore, 1) := by decide +kernel
theorem dX9_goes_29 : decode cX9_goes 29 = .ok (.aload_n 0, 1) := by decide +kernel
theorem dX9_goes_30 : decode cX9_goes 30 = .ok (.getfield 75, 3) := by decide +kernel
theorem dX9_goes_33 : decode cX9_goes 33 = .ok (.iload_n 2, 1) := by decide +kernel
theorem dX9_goes_34 : decode cX9_goes 34 = .ok (.dup2, 1) := by decide +kernel
theorem dX9_goes_35 : decode cX9_goes 35 = .ok (.iaload, 1) := by decide +kernel
theorem dX9_goes_36 : decode cX9_goes 36 = .ok (.iconst 1, 1) := by decide +kernel
theorem dX9_goes_37 : decode cX9_goes 37 = .ok (.isub, 1) := by decide +kernel
theorem dX9_goes_38 : decode cX9_goes 38 = .ok (.iastore, 1) := by decide +kernel
theorem dX9_goes_39 : decode cX9_goes 39 = .ok (.iconst 0, 1) := by decide +kernel
theorem dX9_goes_4 : decode cX9_goes 4 = .ok (.istore_n 2, 1) := by decide +kernel
theorem dX9_goes_40 : decode cX9_goes 40 = .ok (.istore_n 3, 1) := by decide +kernel
theorem dX9_goes_41 : decode cX9_goes 41 = .ok (.iload_n 3, 1) := by decide +kernel
theorem dX9_goes_42 : decode cX9_goes 42 = .ok (.iconst 2, 1) := by decide +kernel
theorem dX9_goes_43 : decode cX9_goes 43 = .ok (.aload_n 0, 1) := by decide +kernel
theorem dX9_goes_44 : decode cX9_goes 44 = .ok (.getfield 75, 3) := by decide +kernel
theorem dX9_goes_47 : decode cX9_goes 47 = .ok (.iload_n 2, 1) := by decide +kernel
theorem dX9_goes_48 : decode cX9_goes 48 = .ok (.iaload, 1) := by decide +kernel
theorem dX9_goes_49 : decode cX9_goes 49 = .ok (.imul, 1) := by decide +kernel
theorem dX9_goes_5 : decode cX9_goes 5 = .ok (.aload_n 0, 1) := by decide +kernel
theorem dX9_goes_50 : decode cX9_goes 50 = .ok (.if_icmp .ge 29, 3) := by decide +kernel
theorem dX9_goes_53 : decode cX9_goes 53 = .ok (.aload_n 0, 1) := by decide +kernel
theorem dX9_goes_54 : decode cX9_goes 54 = .ok (.getfield 75, 3) := by decide +kernel
theorem dX9_goes_57 : decode cX9_goes 57 = .ok (.iload_n 2, 1) := by decide +kernel
theorem dX9_goes_58 : decode cX9_goes 58 = .ok (.iconst 1, 1) := by decide +kernel
theorem dX9_goes_59 : decode cX9_goes 59 = .ok (.iadd, 1) := by decide +kernel
theorem dX9_goes_6 : decode cX9_goes 6 = .ok (.getfield 75, 3) := by decide +kernel
theorem dX9_goes_60 : decode cX9_goes 60 = .ok (.iload_n 3, 1) := by decide +kernel
theorem dX9_goes_61 : decode cX9_goes 61 = .ok (.iadd, 1) := by decide +kernel
theorem dX9_goes_62 : decode cX9_goes 62 = .ok (.aload_n 0, 1) := by decide +kernel
theorem dX9_goes_63 : decode cX9_goes 63 = .ok (.getfield 75, 3) := by decide +kernel
theorem dX9_goes_66 : decode cX9_goes 66 = .ok (.iload_n 2, 1) := by decide +kernel
theorem dX9_goes_67 : decode cX9_goes 67 = .ok (.iconst 3, 1) := by decide +kernel
theorem dX9_goes_68 : decode cX9_goes 68 = .ok (.iadd, 1) := by decide +kernel
theorem dX9_goes_69 : decode cX9_goes 69 = .ok (.iload_n 3, 1) := by decide +kernel
theorem dX9_goes_70 : decode cX9_goes 70 = .ok (.iadd, 1) := by decide +kernel
theorem dX9_goes_71 : decode cX9_goes 71 = .ok (.iaload, 1) := by decide +kernel
theorem dX9_goes_72 : decode cX9_goes 72 = .ok (.iastore, 1) := by decide +kernel
theorem dX9_goes_73 : decode cX9_goes 73 = .ok (.iinc 3 1, 3) := by decide +kernel
theorem dX9_goes_76 : decode cX9_goes 76 = .ok (.goto (-35), 3) := by decide +kernel
theorem dX9_goes_79 : decode cX9_goes 79 = .ok (.aload_n 0, 1) := by decide +kernel
theorem dX9_goes_80 : decode cX9_goes 80 = .ok (.getfield 75, 3) := by decide +kernel
theorem dX9_goes_83 : decode cX9_goes 83 = .ok (.iload_n 2, 1) := by decide +kernel
theorem dX9_goes_84 : decode cX9_goes 84 = .ok (.iconst 1, 1) := by decide +kernel
theorem dX9_goes_85 : decode cX9_goes 85 = .ok (.iadd, 1) := by decide +kernel
theorem dX9_goes_86 : decode cX9_goes 86 = .ok (.iconst 2, 1) := by decide +kernel
theorem dX9_goes_87 : decode cX9_goes 87 = .ok (.aload_n 0, 1) := by decide +kernel
theorem dX9_goes_88 : decode cX9_goes 88 = .ok (.getfield 75, 3) := by decide +kernel
theorem dX9_goes_9 : decode cX9_goes 9 = .ok (.bipush 12, 2) := by decide +kernel
theorem dX9_goes_91 : decode cX9_goes 91 = .ok (.iload_n 2, 1) := by decide +kernel
theorem dX9_goes_92 : decode cX9_goes 92 = .ok (.iaload, 1) := by decide +kernel
theorem dX9_goes_93 : decode cX9_goes 93 = .ok (.imul, 1) := by decide +kernel
theorem dX9_goes_94 : decode cX9_goes 94 = .ok (.iadd, 1) := by decide +kernel
theorem dX9_goes_95 : decode cX9_goes 95 = .ok (.iconst 0, 1) := by decide +kernel
theorem dX9_goes_96 : decode cX9_goes 96 = .ok (.iastore, 1) := by decide +kernel
theorem dX9_goes_97 : decode cX9_goes 97 = .ok (.aload_n 0, 1) := by decide +kernel
theorem dX9_goes_98 : decode cX9_goes 98 = .ok (.getfield 75, 3) := by decide +kernel
def gGo (w g : Nat → Int32) (k r i : Nat) : Prop := (∀ j, (j < 12 ∨ 16 ≤ j) → (j < 16 + 13 * k ∨ 29 + 13 * k ≤ j) → g j = w j) ∧ g (16 + (13 * k)) = nI r ∧ (∀ t, t < i → g (17 + 13 * k + t) = w (19 + 13 * k + t)) ∧ (∀ t, i ≤ t → t < 12 → g (17 + 13 * k + t) = w (17 + 13 * k + t))
theorem gGo_0 {w : Nat → Int32} {k r x : Nat} {v : Int32} (hx : x < 4) : gGo w (upd (upd w (12 + x) v) (16 + (13 * k)) (nI r)) k r 0 := by
  refine ⟨fun j h1 h2 => ?_, pk_us, fun t ht => absurd ht (Nat.not_lt_zero t), fun t _ ht => ?_⟩
  · rw [pk_un (by omega), pk_un (by omega)]
  · rw [pk_un (by omega), pk_un (by omega)]
theorem gGo_step {w g : Nat → Int32} {k r i a b : Nat} (h : gGo w g k r i) (hi : i < 10) (ha : a = 17 + 13 * k + i) (hb : b = 19 + 13 * k + i) : gGo w (upd g a (g b)) k r (i + 1) := by
  obtain ⟨h1, h2, h3, h4⟩ := h
  have e : g b = w (19 + 13 * k + i) := by
    have := h4 (i + 2) (by omega) (by omega)
    rw [hb, show 19 + 13 * k + i = 17 + 13 * k + (i + 2) by omega]
    exact this
  refine ⟨fun j q1 q2 => ?_, ?_, fun t ht => ?_, fun t q1 q2 => ?_⟩
  · rw [pk_un (by omega)]; exact h1 j q1 q2
  · rw [pk_un (by omega)]; exact h2
  · by_cases e2 : t = i
    · subst e2; rw [ha, pk_us]; exact e
    · rw [pk_un (by omega)]; exact h3 t (by omega)
  · rw [pk_un (by omega)]; exact h4 t (by omega) q2
theorem gGo_end {w g : Nat → Int32} {nx rz : Nat → Nat} {k a b : Nat} (hG : gW9 w nx rz) (hk : k < 3) (hr : 0 < rz k) (h : gGo w g k (rz k - 1) (2 * (rz k - 1))) (ha : a = 17 + 13 * k + 2 * (rz k - 1)) (hb : b = 18 + 13 * k + 2 * (rz k - 1)) : gW9 (upd (upd g a 0) b 0) nx (updN rz k (rz k - 1)) := by
  obtain ⟨h1, h2, h3, h4⟩ := h
  have h6 := (hG k hk).2.2.2.1
  intro j hj
  obtain ⟨e1, e2, e3, e4, e5⟩ := hG j hj
  refine ⟨?_, ?_, e3, ?_, fun i hi => ?_⟩
  · rw [pk_un (by omega), pk_un (by omega), h1 j (by omega) (by omega)]; exact e1
  · by_cases q : j = k
    · subst q; rw [pk_un (by omega), pk_un (by omega), updN_s]; exact h2
    · rw [pk_un (by omega), pk_un (by omega), updN_n q, h1 _ (by omega) (by omega)]; exact e2
  · by_cases q : j = k
    · subst q; rw [updN_s]; omega
    · rw [updN_n q]; exact e4
  · by_cases q : j = k
    · subst q
      rw [updN_s] at hi
      obtain ⟨x, u, v⟩ := e5 (i + 1) (by omega)
      refine ⟨x, u, ?_⟩
      rw [pk_un (by omega), pk_un (by omega), show ((16 + (13 * j)) + 1) + (2 * i) = 17 + 13 * j + 2 * i by omega, h3 (2 * i) (by omega), ← v]
      congr 1; omega
    · rw [updN_n q] at hi
      obtain ⟨x, u, v⟩ := e5 i hi
      refine ⟨x, u, ?_⟩
      rw [pk_un (by omega), pk_un (by omega), h1 _ (by omega) (by omega)]
      exact v
def wsP_c_goes9 : List Cond := .code yX9_goes cX9_goes 4 none :: (([.methodLink RX9 267 yX9_rowAt, .static yX9_rowAt, .initialized yX9_rowAt.cls, .fieldLink RX9 75 "LitmusHallModel" "now" "[I"] ++ wsX90) ++ (wsP_c_rowAt9 ++ []))
theorem gW_c_goes9 : wsP_c_goes9.all goodWord = true := by unfold wsP_c_goes9; exact gw_mk (by decide +kernel) (gw_app gW_c_rowAt9 rfl)
set_option maxRecDepth 20000 in
theorem gP_c_goes9__c_rowAt9 : GoodIn wsP_c_goes9 (va_wsS RX9 267 yX9_rowAt wsP_c_rowAt9) := gw_in (pre := [.methodLink RX9 267 yX9_rowAt, .static yX9_rowAt, .initialized yX9_rowAt.cls]) (by decide +kernel) (fun _ h => List.mem_cons_of_mem _ (List.mem_append_right _ (List.mem_append_left _ h))) gW_c_rowAt9
set_option maxHeartbeats 4000000 in
set_option maxRecDepth 100000 in
theorem c_goes9 (l : Launch) (D : va_G) (cI cB cZ : ClassId) (h0 : Nat) (a22 : Nat) (v0 : Value) (v1 : Value) (v2 : Value) (v3 : Value) (v4 : Value) (v5 : Value) (v6 : Value) (v7 : Value) (v8 : Value) (v9 : Value) (v10 : Value) (v11 : Value) (v12 : Value) (v13 : Value) (v14 : Value) (v15 : Value) (v16 : Value) (v17 : Value) (v18 : Value) (v19 : Value) (v20 : Value) (v21 : Value) (v23 : Value) (v24 : Value) (v25 : Value) (v26 : Value) (v27 : Value) (v28 : Value) (v29 : Value) (v30 : Value) (v31 : Value) (v32 : Value) (v33 : Value) (v34 : Value) (v35 : Value) (v36 : Value) (v37 : Value) (v38 : Value) (v39 : Value) (v40 : Value) (v41 : Value) (v42 : Value) (v43 : Value) (v44 : Value) (v45 : Value) (v46 : Value) (v47 : Value) (v48 : Value) (v49 : Value) (v50 : Value) (v51 : Value) (nw : Nat → Int32) (nx : Nat → Nat) (rz : Nat → Nat) (k : Nat) (hk : k < 3) (hz : 0 < rz k) (hG : gW9 nw nx rz) : gMv l yX9_goes wsP_c_goes9 ({ frames := 1, cells := 0, slots := 0, locals := 20 }) D cI cB cZ [] [.ref h0, .int (nI k)] [(h0, .inr (9, [v0, v1, v2, v3, v4, v5, v6, v7, v8, v9, v10, v11, v12, v13, v14, v15, v16, v17, v18, v19, v20, v21, .ref a22, v23, v24, v25, v26, v27, v28, v29, v30, v31, v32, v33, v34, v35, v36, v37, v38, v39, v40, v41, v42, v43, v44, v45, v46, v47, v48, v49, v50, v51])), (a22, .inl (cI, 58, .inl nw))] (fun w9 => ∃ nw9 : Nat → Int32, (gW9 nw9 nx (updN rz k (rz k - 1))) ∧ w9 = [(h0, .inr (9, [v0, v1, v2, v3, v4, v5, v6, v7, v8, v9, v10, v11, v12, v13, v14, v15, v16, v17, v18, v19, v20, v21, .ref a22, v23, v24, v25, v26, v27, v28, v29, v30, v31, v32, v33, v34, v35, v36, v37, v38, v39, v40, v41, v42, v43, v44, v45, v46, v47, v48, v49, v50, v51])), (a22, .inl (cI, 58, .inl nw9))]) := by
  refine gMv.of (cc := cX9_goes) (maxL := 4) (ret := none) (by decide) rfl (Nat.le_of_ble_eq_true rfl) (fun p e s m below meth c A ls hx hb hr hlk hml hts hown hin hA hP hK hD hS hN hl => ?_)
  have hown : s.vm.findClass RX9 = some m.cls := hown
  have hl : lv_has ls 4 [(0, .ref h0), (1, .int (nI k))] := hl
  obtain ⟨e1, e2, e3, e4, e5⟩ := hG (k) (by omega)
  obtain ⟨x, hx0, ex⟩ := e5 0 hz
  refine lv_iload_n hx hb dX9_goes_0 rfl (lv_at hl 1 rfl) ?_
  refine gx_goi (wc := []) (wr := [(h0, .inr (9, [v0, v1, v2, v3, v4, v5, v6, v7, v8, v9, v10, v11, v12, v13, v14, v15, v16, v17, v18, v19, v20, v21, .ref a22, v23, v24, v25, v26, v27, v28, v29, v30, v31, v32, v33, v34, v35, v36, v37, v38, v39, v40, v41, v42, v43, v44, v45, v46, v47, v48, v49, v50, v51])), (a22, .inl (cI, 58, .inl nw))]) (va_runS (As := [.int (nI k)]) (rest := []) ⟨hx, hb, hml, hown, hts⟩ (c_rowAt9 l D cI cB cZ k _) (va_cwS 1 hts gP_c_goes9__c_rowAt9 rfl rfl rfl (by decide +kernel) ⟨Nat.le_of_ble_eq_true rfl, Nat.le_of_ble_eq_true rfl⟩) (gx_preS hK gN.nil hP hD [] rfl rfl) rfl rfl hl.1 rfl (lv_room (Nat.le_of_ble_eq_true rfl)) dX9_goes_1 ⟨Nat.le_of_ble_eq_true rfl, Nat.le_of_ble_eq_true rfl⟩) hP hD hS hA [] [0, 1] rfl rfl rfl (by decide) (fun r1 w1 H locs hp hP hD hS => ?_)
  obtain ⟨h9, rfl⟩ := hp
  have h9 := h9.symm
  subst h9
  refine lv_istore_n (lv' := [(2, .int (nI (16 + (13 * k)))), (0, .ref h0), (1, .int (nI k))]) hx hb dX9_goes_4 rfl hl (by decide) rfl (fun ls hl => ?_)
  refine lv_aload_n hx hb dX9_goes_5 rfl (lv_at hl 1 rfl) ?_
  refine va_get (D := D) (ci := 9) (v := .ref a22) (C := RX9) (T := TX9) (N := 52) hx hb hts (fun _ h => List.mem_cons_of_mem _ (List.mem_append_left _ (List.mem_append_right _ h))) hown hK hP 0 rfl rfl 22 (by decide) (hts (.fieldLink RX9 75 "LitmusHallModel" "now" "[I") (by decide +kernel)) (fun _ h9 => h9) rfl dX9_goes_6 ?_
  refine lv_bipush (v := 12) hx hb dX9_goes_9 (by decide) ?_
  refine lv_aload_n hx hb dX9_goes_11 rfl (lv_at hl 1 rfl) ?_
  refine va_get (D := D) (ci := 9) (v := .ref a22) (C := RX9) (T := TX9) (N := 52) hx hb hts (fun _ h => List.mem_cons_of_mem _ (List.mem_append_left _ (List.mem_append_right _ h))) hown hK hP 0 rfl rfl 22 (by decide) (hts (.fieldLink RX9 75 "LitmusHallModel" "now" "[I") (by decide +kernel)) (fun _ h9 => h9) rfl dX9_goes_12 ?_
  refine lv_iload_n hx hb dX9_goes_15 rfl (lv_at hl 0 rfl) ?_
  refine lv_iconst (v := 1) hx hb dX9_goes_16 (by decide) ?_
  refine lv_iadd hx hb dX9_goes_17 ?_
  refine gx_top (y := nI ((16 + (13 * k)) + 1)) (nI_add (16 + (13 * k)) 1) ?_
  refine gy_ild (i := ((16 + (13 * k)) + 1)) hx hb hK hP 1 rfl (by omega) (by omega) dX9_goes_18 ?_
  refine gx_top (y := nI x) ex ?_
  refine lv_iadd hx hb dX9_goes_19 ?_
  refine gx_top (y := nI (12 + x)) (nI_add 12 x) ?_
  refine lv_aload_n hx hb dX9_goes_20 rfl (lv_at hl 1 rfl) ?_
  refine va_get (D := D) (ci := 9) (v := .ref a22) (C := RX9) (T := TX9) (N := 52) hx hb hts (fun _ h => List.mem_cons_of_mem _ (List.mem_append_left _ (List.mem_append_right _ h))) hown hK hP 0 rfl rfl 22 (by decide) (hts (.fieldLink RX9 75 "LitmusHallModel" "now" "[I") (by decide +kernel)) (fun _ h9 => h9) rfl dX9_goes_21 ?_
  refine lv_iload_n hx hb dX9_goes_24 rfl (lv_at hl 0 rfl) ?_
  refine lv_iconst (v := 2) hx hb dX9_goes_25 (by decide) ?_
  refine lv_iadd hx hb dX9_goes_26 ?_
  refine gx_top (y := nI ((16 + (13 * k)) + 2)) (nI_add (16 + (13 * k)) 2) ?_
  refine gy_ild (i := ((16 + (13 * k)) + 2)) hx hb hK hP 1 rfl (by omega) (by omega) dX9_goes_27 ?_
  refine gx_gen (fun z_1 => ?_)
  refine gy_ist (i := (12 + x)) hx hb hK hP hD hS 1 rfl (by omega) (by omega) dX9_goes_28 (fun H locs hP hD hS => ?_)
  have hP : va_P D vwCl [(h0, .inr (9, [v0, v1, v2, v3, v4, v5, v6, v7, v8, v9, v10, v11, v12, v13, v14, v15, v16, v17, v18, v19, v20, v21, .ref a22, v23, v24, v25, v26, v27, v28, v29, v30, v31, v32, v33, v34, v35, v36, v37, v38, v39, v40, v41, v42, v43, v44, v45, v46, v47, v48, v49, v50, v51])), (a22, .inl (cI, 58, .inl (upd nw (12 + x) z_1)))] H := hP
  have hD : va_D A [(h0, .inr (9, [v0, v1, v2, v3, v4, v5, v6, v7, v8, v9, v10, v11, v12, v13, v14, v15, v16, v17, v18, v19, v20, v21, .ref a22, v23, v24, v25, v26, v27, v28, v29, v30, v31, v32, v33, v34, v35, v36, v37, v38, v39, v40, v41, v42, v43, v44, v45, v46, v47, v48, v49, v50, v51])), (a22, .inl (cI, 58, .inl (upd nw (12 + x) z_1)))] := hD
  refine lv_aload_n hx hb dX9_goes_29 rfl (lv_at hl 1 rfl) ?_
  refine va_get (D := D) (ci := 9) (v := .ref a22) (C := RX9) (T := TX9) (N := 52) hx hb hts (fun _ h => List.mem_cons_of_mem _ (List.mem_append_left _ (List.mem_append_right _ h))) hown hK hP 0 rfl rfl 22 (by decide) (hts (.fieldLink RX9 75 "LitmusHallModel" "now" "[I") (by decide +kernel)) (fun _ h9 => h9) rfl dX9_goes_30 ?_
  refine lv_iload_n hx hb dX9_goes_33 rfl (lv_at hl 0 rfl) ?_
  refine lv_dup2_11 hx hb dX9_goes_34 rfl rfl ?_
  refine gy_ild (i := (16 + (13 * k))) hx hb hK hP 1 rfl (by omega) (by omega) dX9_goes_35 ?_
  refine gx_top (y := nI (rz k)) (by rw [pk_un (by omega)]; exact e2) ?_
  refine lv_iconst (v := 1) hx hb dX9_goes_36 (by decide) ?_
  refine lv_isub hx hb dX9_goes_37 ?_
  refine gx_top (y := nI ((rz k) - 1)) (pk_sub (a := rz k) (b := 1) (by omega)) ?_
  refine gy_ist (i := (16 + (13 * k))) hx hb hK hP hD hS 1 rfl (by omega) (by omega) dX9_goes_38 (fun H locs hP hD hS => ?_)
  have hP : va_P D vwCl [(h0, .inr (9, [v0, v1, v2, v3, v4, v5, v6, v7, v8, v9, v10, v11, v12, v13, v14, v15, v16, v17, v18, v19, v20, v21, .ref a22, v23, v24, v25, v26, v27, v28, v29, v30, v31, v32, v33, v34, v35, v36, v37, v38, v39, v40, v41, v42, v43, v44, v45, v46, v47, v48, v49, v50, v51])), (a22, .inl (cI, 58, .inl (upd (upd nw (12 + x) z_1) (16 + (13 * k)) (nI ((rz k) - 1)))))] H := hP
  have hD : va_D A [(h0, .inr (9, [v0, v1, v2, v3, v4, v5, v6, v7, v8, v9, v10, v11, v12, v13, v14, v15, v16, v17, v18, v19, v20, v21, .ref a22, v23, v24, v25, v26, v27, v28, v29, v30, v31, v32, v33, v34, v35, v36, v37, v38, v39, v40, v41, v42, v43, v44, v45, v46, v47, v48, v49, v50, v51])), (a22, .inl (cI, 58, .inl (upd (upd nw (12 + x) z_1) (16 + (13 * k)) (nI ((rz k) - 1)))))] := hD
  refine lv_iconst (v := 0) hx hb dX9_goes_39 (by decide) ?_
  refine lv_istore_n (lv' := [(3, .int 0), (2, .int (nI (16 + (13 * k)))), (0, .ref h0), (1, .int (nI k))]) hx hb dX9_goes_40 rfl hl (by decide) rfl (fun ls hl => ?_)
  refine gy_loop0 (I := fun (x9 : Nat × (Nat → Int32)) H locs ls => (x9.1 ≤ 2 * (rz k - 1)) ∧ (gGo nw x9.2 k (rz k - 1) x9.1) ∧ va_P D vwCl [(h0, .inr (9, [v0, v1, v2, v3, v4, v5, v6, v7, v8, v9, v10, v11, v12, v13, v14, v15, v16, v17, v18, v19, v20, v21, .ref a22, v23, v24, v25, v26, v27, v28, v29, v30, v31, v32, v33, v34, v35, v36, v37, v38, v39, v40, v41, v42, v43, v44, v45, v46, v47, v48, v49, v50, v51])), (a22, .inl (cI, 58, .inl x9.2))] H ∧ va_D A [(h0, .inr (9, [v0, v1, v2, v3, v4, v5, v6, v7, v8, v9, v10, v11, v12, v13, v14, v15, v16, v17, v18, v19, v20, v21, .ref a22, v23, v24, v25, v26, v27, v28, v29, v30, v31, v32, v33, v34, v35, v36, v37, v38, v39, v40, v41, v42, v43, v44, v45, v46, v47, v48, v49, v50, v51])), (a22, .inl (cI, 58, .inl x9.2))] ∧ va_S A s.heap H locs ∧ lv_has ls 4 [(3, .int (nI x9.1)), (2, .int (nI (16 + (13 * k)))), (0, .ref h0), (1, .int (nI k))]) (μ := fun (x9 : Nat × (Nat → Int32)) => 2 * (rz k - 1) - x9.1) (fun x9 H locs ls hI ih41 => ?_) (0, (upd (upd nw (12 + x) z_1) (16 + (13 * k)) (nI ((rz k) - 1)))) ⟨(by show 0 ≤ 2 * (rz k - 1); exact Nat.zero_le _), (gGo_0 hx0), hP, hD, hS, lv_sub hl [0, 1, 2, 3] rfl⟩
  obtain ⟨i, g⟩ := x9
  obtain ⟨hi41_0, hi41_1, hP, hD, hS, hl⟩ := hI
  have hi41_0 : i ≤ 2 * (rz k - 1) := hi41_0
  have hi41_1 : gGo nw g k (rz k - 1) i := hi41_1
  have hP : va_P D vwCl [(h0, .inr (9, [v0, v1, v2, v3, v4, v5, v6, v7, v8, v9, v10, v11, v12, v13, v14, v15, v16, v17, v18, v19, v20, v21, .ref a22, v23, v24, v25, v26, v27, v28, v29, v30, v31, v32, v33, v34, v35, v36, v37, v38, v39, v40, v41, v42, v43, v44, v45, v46, v47, v48, v49, v50, v51])), (a22, .inl (cI, 58, .inl g))] H := hP
  have hD : va_D A [(h0, .inr (9, [v0, v1, v2, v3, v4, v5, v6, v7, v8, v9, v10, v11, v12, v13, v14, v15, v16, v17, v18, v19, v20, v21, .ref a22, v23, v24, v25, v26, v27, v28, v29, v30, v31, v32, v33, v34, v35, v36, v37, v38, v39, v40, v41, v42, v43, v44, v45, v46, v47, v48, v49, v50, v51])), (a22, .inl (cI, 58, .inl g))] := hD
  have hS : va_S A s.heap H locs := hS
  have hl : lv_has ls 4 [(3, .int (nI i)), (2, .int (nI (16 + (13 * k)))), (0, .ref h0), (1, .int (nI k))] := hl
  refine lv_iload_n hx hb dX9_goes_41 rfl (lv_at hl 0 rfl) ?_
  refine lv_iconst (v := 2) hx hb dX9_goes_42 (by decide) ?_
  refine lv_aload_n hx hb dX9_goes_43 rfl (lv_at hl 2 rfl) ?_
  refine va_get (D := D) (ci := 9) (v := .ref a22) (C := RX9) (T := TX9) (N := 52) hx hb hts (fun _ h => List.mem_cons_of_mem _ (List.mem_append_left _ (List.mem_append_right _ h))) hown hK hP 0 rfl rfl 22 (by decide) (hts (.fieldLink RX9 75 "LitmusHallModel" "now" "[I") (by decide +kernel)) (fun _ h9 => h9) rfl dX9_goes_44 ?_
  refine lv_iload_n hx hb dX9_goes_47 rfl (lv_at hl 1 rfl) ?_
  refine gy_ild (i := (16 + (13 * k))) hx hb hK hP 1 rfl (by omega) (by omega) dX9_goes_48 ?_
  refine gx_top (y := nI (rz k - 1)) hi41_1.2.1 ?_
  refine lv_imul hx hb dX9_goes_49 ?_
  refine gx_top (y := nI (2 * (rz k - 1))) (pk_mul 2 (rz k - 1)) ?_
  refine gy_ge (a := i) (b := (2 * (rz k - 1))) (tgt := 79) hx hb (by omega) (by omega) dX9_goes_50 (by decide) (fun c_2 => ?_) (fun c_2 => ?_)
  · refine lv_aload_n hx hb dX9_goes_79 rfl (lv_at hl 2 rfl) ?_
    refine va_get (D := D) (ci := 9) (v := .ref a22) (C := RX9) (T := TX9) (N := 52) hx hb hts (fun _ h => List.mem_cons_of_mem _ (List.mem_append_left _ (List.mem_append_right _ h))) hown hK hP 0 rfl rfl 22 (by decide) (hts (.fieldLink RX9 75 "LitmusHallModel" "now" "[I") (by decide +kernel)) (fun _ h9 => h9) rfl dX9_goes_80 ?_
    refine lv_iload_n hx hb dX9_goes_83 rfl (lv_at hl 1 rfl) ?_
    refine lv_iconst (v := 1) hx hb dX9_goes_84 (by decide) ?_
    refine lv_iadd hx hb dX9_goes_85 ?_
    refine gx_top (y := nI ((16 + (13 * k)) + 1)) (nI_add (16 + (13 * k)) 1) ?_
    refine lv_iconst (v := 2) hx hb dX9_goes_86 (by decide) ?_
    refine lv_aload_n hx hb dX9_goes_87 rfl (lv_at hl 2 rfl) ?_
    refine va_get (D := D) (ci := 9) (v := .ref a22) (C := RX9) (T := TX9) (N := 52) hx hb hts (fun _ h => List.mem_cons_of_mem _ (List.mem_append_left _ (List.mem_append_right _ h))) hown hK hP 0 rfl rfl 22 (by decide) (hts (.fieldLink RX9 75 "LitmusHallModel" "now" "[I") (by decide +kernel)) (fun _ h9 => h9) rfl dX9_goes_88 ?_
    refine lv_iload_n hx hb dX9_goes_91 rfl (lv_at hl 1 rfl) ?_
    have hlast : i = 2 * (rz k - 1) := by omega
    refine gy_ild (i := (16 + (13 * k))) hx hb hK hP 1 rfl (by omega) (by omega) dX9_goes_92 ?_
    refine gx_top (y := nI (rz k - 1)) hi41_1.2.1 ?_
    refine lv_imul hx hb dX9_goes_93 ?_
    refine gx_top (y := nI (2 * (rz k - 1))) (pk_mul 2 (rz k - 1)) ?_
    refine lv_iadd hx hb dX9_goes_94 ?_
    refine gx_top (y := nI (((16 + (13 * k)) + 1) + (2 * (rz k - 1)))) (nI_add ((16 + (13 * k)) + 1) (2 * (rz k - 1))) ?_
    refine lv_iconst (v := 0) hx hb dX9_goes_95 (by decide) ?_
    refine gy_ist (i := (((16 + (13 * k)) + 1) + (2 * (rz k - 1)))) hx hb hK hP hD hS 1 rfl (by omega) (by omega) dX9_goes_96 (fun H locs hP hD hS => ?_)
    have hP : va_P D vwCl [(h0, .inr (9, [v0, v1, v2, v3, v4, v5, v6, v7, v8, v9, v10, v11, v12, v13, v14, v15, v16, v17, v18, v19, v20, v21, .ref a22, v23, v24, v25, v26, v27, v28, v29, v30, v31, v32, v33, v34, v35, v36, v37, v38, v39, v40, v41, v42, v43, v44, v45, v46, v47, v48, v49, v50, v51])), (a22, .inl (cI, 58, .inl (upd g (((16 + (13 * k)) + 1) + (2 * (rz k - 1))) 0)))] H := hP
    have hD : va_D A [(h0, .inr (9, [v0, v1, v2, v3, v4, v5, v6, v7, v8, v9, v10, v11, v12, v13, v14, v15, v16, v17, v18, v19, v20, v21, .ref a22, v23, v24, v25, v26, v27, v28, v29, v30, v31, v32, v33, v34, v35, v36, v37, v38, v39, v40, v41, v42, v43, v44, v45, v46, v47, v48, v49, v50, v51])), (a22, .inl (cI, 58, .inl (upd g (((16 + (13 * k)) + 1) + (2 * (rz k - 1))) 0)))] := hD
    refine lv_aload_n hx hb dX9_goes_97 rfl (lv_at hl 2 rfl) ?_
    refine va_get (D := D) (ci := 9) (v := .ref a22) (C := RX9) (T := TX9) (N := 52) hx hb hts (fun _ h => List.mem_cons_of_mem _ (List.mem_append_left _ (List.mem_append_right _ h))) hown hK hP 0 rfl rfl 22 (by decide) (hts (.fieldLink RX9 75 "LitmusHallModel" "now" "[I") (by decide +kernel)) (fun _ h9 => h9) rfl dX9_goes_98 ?_
    refine lv_iload_n hx hb dX9_goes_101 rfl (lv_at hl 1 rfl) ?_
    refine lv_iconst (v := 2) hx hb dX9_goes_102 (by decide) ?_
    refine lv_iadd hx hb dX9_goes_103 ?_
    refine gx_top (y := nI ((16 + (13 * k)) + 2)) (nI_add (16 + (13 * k)) 2) ?_
    refine lv_iconst (v := 2) hx hb dX9_goes_104 (by decide) ?_
    refine lv_aload_n hx hb dX9_goes_105 rfl (lv_at hl 2 rfl) ?_
    refine va_get (D := D) (ci := 9) (v := .ref a22) (C := RX9) (T := TX9) (N := 52) hx hb hts (fun _ h => List.mem_cons_of_mem _ (List.mem_append_left _ (List.mem_append_right _ h))) hown hK hP 0 rfl rfl 22 (by decide) (hts (.fieldLink RX9 75 "LitmusHallModel" "now" "[I") (by decide +kernel)) (fun _ h9 => h9) rfl dX9_goes_106 ?_
    refine lv_iload_n hx hb dX9_goes_109 rfl (lv_at hl 1 rfl) ?_
    refine gy_ild (i := (16 + (13 * k))) hx hb hK hP 1 rfl (by omega) (by omega) dX9_goes_110 ?_
    refine gx_top (y := nI (rz k - 1)) (by rw [pk_un (by omega)]; exact hi41_1.2.1) ?_
    refine lv_imul hx hb dX9_goes_111 ?_
    refine gx_top (y := nI (2 * (rz k - 1))) (pk_mul 2 (rz k - 1)) ?_
    refine lv_iadd hx hb dX9_goes_112 ?_
    refine gx_top (y := nI (((16 + (13 * k)) + 2) + (2 * (rz k - 1)))) (nI_add ((16 + (13 * k)) + 2) (2 * (rz k - 1))) ?_
    refine lv_iconst (v := 0) hx hb dX9_goes_113 (by decide) ?_
    refine gy_ist (i := (((16 + (13 * k)) + 2) + (2 * (rz k - 1)))) hx hb hK hP hD hS 1 rfl (by omega) (by omega) dX9_goes_114 (fun H locs hP hD hS => ?_)
    have hP : va_P D vwCl [(h0, .inr (9, [v0, v1, v2, v3, v4, v5, v6, v7, v8, v9, v10, v11, v12, v13, v14, v15, v16, v17, v18, v19, v20, v21, .ref a22, v23, v24, v25, v26, v27, v28, v29, v30, v31, v32, v33, v34, v35, v36, v37, v38, v39, v40, v41, v42, v43, v44, v45, v46, v47, v48, v49, v50, v51])), (a22, .inl (cI, 58, .inl (upd (upd g (((16 + (13 * k)) + 1) + (2 * (rz k - 1))) 0) (((16 + (13 * k)) + 2) + (2 * (rz k - 1))) 0)))] H := hP
    have hD : va_D A [(h0, .inr (9, [v0, v1, v2, v3, v4, v5, v6, v7, v8, v9, v10, v11, v12, v13, v14, v15, v16, v17, v18, v19, v20, v21, .ref a22, v23, v24, v25, v26, v27, v28, v29, v30, v31, v32, v33, v34, v35, v36, v37, v38, v39, v40, v41, v42, v43, v44, v45, v46, v47, v48, v49, v50, v51])), (a22, .inl (cI, 58, .inl (upd (upd g (((16 + (13 * k)) + 1) + (2 * (rz k - 1))) 0) (((16 + (13 * k)) + 2) + (2 * (rz k - 1))) 0)))] := hD
    exact gx_vret (w' := [(h0, .inr (9, [v0, v1, v2, v3, v4, v5, v6, v7, v8, v9, v10, v11, v12, v13, v14, v15, v16, v17, v18, v19, v20, v21, .ref a22, v23, v24, v25, v26, v27, v28, v29, v30, v31, v32, v33, v34, v35, v36, v37, v38, v39, v40, v41, v42, v43, v44, v45, v46, v47, v48, v49, v50, v51])), (a22, .inl (cI, 58, .inl (upd (upd g (((16 + (13 * k)) + 1) + (2 * (rz k - 1))) 0) (((16 + (13 * k)) + 2) + (2 * (rz k - 1))) 0)))]) hx hb hr hlk hK hP hD hS (Nat.le_of_ble_eq_true rfl) (Nat.le_of_ble_eq_true rfl) dX9_goes_115 ⟨(upd (upd g (((16 + (13 * k)) + 1) + (2 * (rz k - 1))) 0) (((16 + (13 * k)) + 2) + (2 * (rz k - 1))) 0), (gGo_end hG hk hz (hlast ▸ hi41_1) (by omega) (by omega)), rfl⟩
  · refine lv_aload_n hx hb dX9_goes_53 rfl (lv_at hl 2 rfl) ?_
    refine va_get (D := D) (ci := 9) (v := .ref a22) (C := RX9) (T := TX9) (N := 52) hx hb hts (fun _ h => List.mem_cons_of_mem _ (List.mem_append_left _ (List.mem_append_right _ h))) hown hK hP 0 rfl rfl 22 (by decide) (hts (.fieldLink RX9 75 "LitmusHallModel" "now" "[I") (by decide +kernel)) (fun _ h9 => h9) rfl dX9_goes_54 ?_
    refine lv_iload_n hx hb dX9_goes_57 rfl (lv_at hl 1 rfl) ?_
    refine lv_iconst (v := 1) hx hb dX9_goes_58 (by decide) ?_
    refine lv_iadd hx hb dX9_goes_59 ?_
    refine gx_top (y := nI ((16 + (13 * k)) + 1)) (nI_add (16 + (13 * k)) 1) ?_
    refine lv_iload_n hx hb dX9_goes_60 rfl (lv_at hl 0 rfl) ?_
    refine lv_iadd hx hb dX9_goes_61 ?_
    refine gx_top (y := nI (((16 + (13 * k)) + 1) + i)) (nI_add ((16 + (13 * k)) + 1) i) ?_
    refine lv_aload_n hx hb dX9_goes_62 rfl (lv_at hl 2 rfl) ?_
    refine va_get (D := D) (ci := 9) (v := .ref a22) (C := RX9) (T := TX9) (N := 52) hx hb hts (fun _ h => List.mem_cons_of_mem _ (List.mem_append_left _ (List.mem_append_right _ h))) hown hK hP 0 rfl rfl 22 (by decide) (hts (.fieldLink RX9 75 "LitmusHallModel" "now" "[I") (by decide +kernel)) (fun _ h9 => h9) rfl dX9_goes_63 ?_
    refine lv_iload_n hx hb dX9_goes_66 rfl (lv_at hl 1 rfl) ?_
    refine lv_iconst (v := 3) hx hb dX9_goes_67 (by decide) ?_
    refine lv_iadd hx hb dX9_goes_68 ?_
    refine gx_top (y := nI ((16 + (13 * k)) + 3)) (nI_add (16 + (13 * k)) 3) ?_
    refine lv_iload_n hx hb dX9_goes_69 rfl (lv_at hl 0 rfl) ?_
    refine lv_iadd hx hb dX9_goes_70 ?_
    refine gx_top (y := nI (((16 + (13 * k)) + 3) + i)) (nI_add ((16 + (13 * k)) + 3) i) ?_
    refine gy_ild (i := (((16 + (13 * k)) + 3) + i)) hx hb hK hP 1 rfl (by omega) (by omega) dX9_goes_71 ?_
    refine gy_ist (i := (((16 + (13 * k)) + 1) + i)) hx hb hK hP hD hS 1 rfl (by omega) (by omega) dX9_goes_72 (fun H locs hP hD hS => ?_)
    have hP : va_P D vwCl [(h0, .inr (9, [v0, v1, v2, v3, v4, v5, v6, v7, v8, v9, v10, v11, v12, v13, v14, v15, v16, v17, v18, v19, v20, v21, .ref a22, v23, v24, v25, v26, v27, v28, v29, v30, v31, v32, v33, v34, v35, v36, v37, v38, v39, v40, v41, v42, v43, v44, v45, v46, v47, v48, v49, v50, v51])), (a22, .inl (cI, 58, .inl (upd g (((16 + (13 * k)) + 1) + i) (g (((16 + (13 * k)) + 3) + i)))))] H := hP
    have hD : va_D A [(h0, .inr (9, [v0, v1, v2, v3, v4, v5, v6, v7, v8, v9, v10, v11, v12, v13, v14, v15, v16, v17, v18, v19, v20, v21, .ref a22, v23, v24, v25, v26, v27, v28, v29, v30, v31, v32, v33, v34, v35, v36, v37, v38, v39, v40, v41, v42, v43, v44, v45, v46, v47, v48, v49, v50, v51])), (a22, .inl (cI, 58, .inl (upd g (((16 + (13 * k)) + 1) + i) (g (((16 + (13 * k)) + 3) + i)))))] := hD
    refine lv_iinc (v := nI (i + 1)) (lv' := [(3, .int (nI (i + 1))), (2, .int (nI (16 + (13 * k)))), (0, .ref h0), (1, .int (nI k))]) hx hb dX9_goes_73 hl (k := 0) rfl (nI_add i 1) (by decide) rfl (fun ls hl => ?_)
    refine lv_goto (tgt := 41) hx hb dX9_goes_76 (by decide) ?_
    exact ih41 ((i + 1), (upd g (((16 + (13 * k)) + 1) + i) (g (((16 + (13 * k)) + 3) + i)))) H locs ls ⟨(by show (i + 1) ≤ 2 * (rz k - 1); omega), (gGo_step hi41_1 (by omega) (by omega) (by omega)), hP, hD, hS, lv_sub hl [0, 1, 2, 3] rfl⟩ (by show 2 * (rz k - 1) - (i + 1) < 2 * (rz k - 1) - i; omega)
