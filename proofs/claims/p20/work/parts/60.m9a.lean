theorem dX9_isDigit_0 : decode cX9_isDigit 0 = .ok (.aload_n 0, 1) := by decide +kernel
theorem dX9_isDigit_1 : decode cX9_isDigit 1 = .ok (.iload_n 1, 1) := by decide +kernel
theorem dX9_isDigit_10 : decode cX9_isDigit 10 = .ok (.aload_n 0, 1) := by decide +kernel
theorem dX9_isDigit_11 : decode cX9_isDigit 11 = .ok (.iload_n 1, 1) := by decide +kernel
theorem dX9_isDigit_12 : decode cX9_isDigit 12 = .ok (.invokevirtual 123, 3) := by decide +kernel
theorem dX9_isDigit_15 : decode cX9_isDigit 15 = .ok (.bipush 57, 2) := by decide +kernel
theorem dX9_isDigit_17 : decode cX9_isDigit 17 = .ok (.if_icmp .gt 7, 3) := by decide +kernel
theorem dX9_isDigit_2 : decode cX9_isDigit 2 = .ok (.invokevirtual 123, 3) := by decide +kernel
theorem dX9_isDigit_20 : decode cX9_isDigit 20 = .ok (.iconst 1, 1) := by decide +kernel
theorem dX9_isDigit_21 : decode cX9_isDigit 21 = .ok (.goto 4, 3) := by decide +kernel
theorem dX9_isDigit_24 : decode cX9_isDigit 24 = .ok (.iconst 0, 1) := by decide +kernel
theorem dX9_isDigit_25 : decode cX9_isDigit 25 = .ok (.ireturn, 1) := by decide +kernel
theorem dX9_isDigit_5 : decode cX9_isDigit 5 = .ok (.bipush 48, 2) := by decide +kernel
theorem dX9_isDigit_7 : decode cX9_isDigit 7 = .ok (.if_icmp .lt 17, 3) := by decide +kernel
theorem dX9_isLetter_0 : decode cX9_isLetter 0 = .ok (.aload_n 0, 1) := by decide +kernel
theorem dX9_isLetter_1 : decode cX9_isLetter 1 = .ok (.iload_n 1, 1) := by decide +kernel
theorem dX9_isLetter_10 : decode cX9_isLetter 10 = .ok (.aload_n 0, 1) := by decide +kernel
theorem dX9_isLetter_11 : decode cX9_isLetter 11 = .ok (.iload_n 1, 1) := by decide +kernel
theorem dX9_isLetter_12 : decode cX9_isLetter 12 = .ok (.invokevirtual 123, 3) := by decide +kernel
theorem dX9_isLetter_15 : decode cX9_isLetter 15 = .ok (.bipush 122, 2) := by decide +kernel
theorem dX9_isLetter_17 : decode cX9_isLetter 17 = .ok (.if_icmp .gt 7, 3) := by decide +kernel
theorem dX9_isLetter_2 : decode cX9_isLetter 2 = .ok (.invokevirtual 123, 3) := by decide +kernel
theorem dX9_isLetter_20 : decode cX9_isLetter 20 = .ok (.iconst 1, 1) := by decide +kernel
theorem dX9_isLetter_21 : decode cX9_isLetter 21 = .ok (.goto 4, 3) := by decide +kernel
theorem dX9_isLetter_24 : decode cX9_isLetter 24 = .ok (.iconst 0, 1) := by decide +kernel
theorem dX9_isLetter_25 : decode cX9_isLetter 25 = .ok (.ireturn, 1) := by decide +kernel
theorem dX9_isLetter_5 : decode cX9_isLetter 5 = .ok (.bipush 97, 2) := by decide +kernel
theorem dX9_isLetter_7 : decode cX9_isLetter 7 = .ok (.if_icmp .lt 17, 3) := by decide +kernel
theorem dX9_seen_0 : decode cX9_seen 0 = .ok (.iload_n 1, 1) := by decide +kernel
theorem dX9_seen_1 : decode cX9_seen 1 = .ok (.aload_n 0, 1) := by decide +kernel
theorem dX9_seen_12 : decode cX9_seen 12 = .ok (.iload_n 1, 1) := by decide +kernel
theorem dX9_seen_13 : decode cX9_seen 13 = .ok (.baload, 1) := by decide +kernel
theorem dX9_seen_14 : decode cX9_seen 14 = .ok (.goto 4, 3) := by decide +kernel
theorem dX9_seen_17 : decode cX9_seen 17 = .ok (.iconst 0, 1) := by decide +kernel
theorem dX9_seen_18 : decode cX9_seen 18 = .ok (.ireturn, 1) := by decide +kernel
theorem dX9_seen_2 : decode cX9_seen 2 = .ok (.getfield 116, 3) := by decide +kernel
theorem dX9_seen_5 : decode cX9_seen 5 = .ok (.if_icmp .ge 12, 3) := by decide +kernel
theorem dX9_seen_8 : decode cX9_seen 8 = .ok (.aload_n 0, 1) := by decide +kernel
theorem dX9_seen_9 : decode cX9_seen 9 = .ok (.getfield 88, 3) := by decide +kernel
def gTk (f : Nat → Int32) (so : Int32) (bg en tp : Nat) : Prop := bg ≤ en ∧ en ≤ tp ∧ (so = 2 → en ≤ bg + 3 ∧ ∀ j, bg ≤ j → j < en → ¬ f j < 48 ∧ ¬ 57 < f j)
theorem gTk_le {f : Nat → Int32} {so : Int32} {bg en tp : Nat} (h : gTk f so bg en tp) : bg ≤ en ∧ en ≤ tp := ⟨h.1, h.2.1⟩
theorem gy_let {f : Nat → Int32} {k tp : Nat} {z : Int32} (h : (k < tp ∧ z = f k) ∨ (tp ≤ k ∧ z = 0)) (h1 : ¬ z < 97) : k < tp := by
  rcases h with ⟨a, b⟩ | ⟨a, b⟩
  · exact a
  · subst b; exact absurd (by decide) h1
theorem gy_dgt {f : Nat → Int32} {k tp : Nat} {z y : Int32} (h : (k < tp ∧ z = f k) ∨ (tp ≤ k ∧ z = 0)) (h1 : ¬ z < 48) (h2 : (k < tp ∧ y = f k) ∨ (tp ≤ k ∧ y = 0)) (h3 : ¬ 57 < y) : k < tp ∧ ¬ f k < 48 ∧ ¬ 57 < f k := by
  rcases h with ⟨a, b⟩ | ⟨a, b⟩
  · rcases h2 with ⟨c, d⟩ | ⟨c, d⟩
    · subst b; subst d; exact ⟨a, h1, h3⟩
    · omega
  · subst b; exact absurd (by decide) h1
theorem gy_reg {w : Int64} (h1 : ¬ lg_cmp w 97 < 0) (h2 : ¬ 0 < lg_cmp w 99) : ∃ r, r < 3 ∧ w.toInt32 = nI (97 + r) := by
  unfold lg_cmp at h1 h2
  have a1 : ¬ w < 97 := by
    intro q
    have n1 : ¬ (97 : Int64) < w := fun z => Int64.lt_irrefl (Int64.lt_trans q z)
    have n2 : ¬ w = 97 := fun z => by subst z; exact Int64.lt_irrefl q
    rw [if_neg n1, if_neg n2] at h1
    exact h1 (by decide)
  have a2 : ¬ 99 < w := by
    intro q
    rw [if_pos q] at h2
    exact h2 (by decide)
  have b1 := Int64.le_iff_toInt_le.mp (Int64.not_lt.mp a1)
  have b2 := Int64.le_iff_toInt_le.mp (Int64.not_lt.mp a2)
  have c1 : (97 : Int64).toInt = 97 := by decide
  have c2 : (99 : Int64).toInt = 99 := by decide
  rw [c1] at b1
  rw [c2] at b2
  have d : w.toInt = 97 ∨ w.toInt = 98 ∨ w.toInt = 99 := by omega
  rcases d with d | d | d
  · obtain rfl : w = 97 := Int64.toInt_inj.mp (by rw [d]; decide)
    exact ⟨0, by omega, by decide⟩
  · obtain rfl : w = 98 := Int64.toInt_inj.mp (by rw [d]; decide)
    exact ⟨1, by omega, by decide⟩
  · obtain rfl : w = 99 := Int64.toInt_inj.mp (by rw [d]; decide)
    exact ⟨2, by omega, by decide⟩
def wsP_c_seen9 : List Cond := .code yX9_seen cX9_seen 2 (some .int) :: (([.fieldLink RX9 116 "LitmusHallModel" "taped" "I", .fieldLink RX9 88 "LitmusHallModel" "tape" "[B"] ++ wsX90) ++ [])
theorem gW_c_seen9 : wsP_c_seen9.all goodWord = true := by unfold wsP_c_seen9; exact gw_mk (by decide +kernel) rfl
set_option maxHeartbeats 4000000 in
set_option maxRecDepth 100000 in
theorem c_seen9 (l : Launch) (D : va_G) (cI cB cZ : ClassId) (h0 : Nat) (a27 : Nat) (v0 : Value) (v1 : Value) (v2 : Value) (v3 : Value) (v4 : Value) (v5 : Value) (v6 : Value) (v7 : Value) (v8 : Value) (v9 : Value) (v10 : Value) (v11 : Value) (v12 : Value) (v13 : Value) (v14 : Value) (v15 : Value) (v16 : Value) (v17 : Value) (v18 : Value) (v19 : Value) (v20 : Value) (v21 : Value) (v22 : Value) (v23 : Value) (v24 : Value) (v25 : Value) (v26 : Value) (v29 : Value) (v30 : Value) (v31 : Value) (v32 : Value) (v33 : Value) (v34 : Value) (v35 : Value) (v36 : Value) (v37 : Value) (v38 : Value) (v39 : Value) (v40 : Value) (v41 : Value) (v42 : Value) (v43 : Value) (v44 : Value) (v45 : Value) (v46 : Value) (v47 : Value) (v48 : Value) (v49 : Value) (v50 : Value) (v51 : Value) (tp : Nat) (f : Nat → Int32) (k : Nat) (htp : tp ≤ 4000) (hk : k < 2 ^ 31) : gMi l yX9_seen wsP_c_seen9 ({ frames := 0, cells := 0, slots := 0, locals := 0 }) D cI cB cZ [] [.ref h0, .int (nI k)] [(h0, .inr (9, [v0, v1, v2, v3, v4, v5, v6, v7, v8, v9, v10, v11, v12, v13, v14, v15, v16, v17, v18, v19, v20, v21, v22, v23, v24, v25, v26, .ref a27, .int (nI tp), v29, v30, v31, v32, v33, v34, v35, v36, v37, v38, v39, v40, v41, v42, v43, v44, v45, v46, v47, v48, v49, v50, v51])), (a27, .inl (cB, 4000, .inl f))] (fun r9 w9 => ∃ z : Int32, ((k < tp ∧ z = f k) ∨ (tp ≤ k ∧ z = 0)) ∧ r9 = z ∧ w9 = [(h0, .inr (9, [v0, v1, v2, v3, v4, v5, v6, v7, v8, v9, v10, v11, v12, v13, v14, v15, v16, v17, v18, v19, v20, v21, v22, v23, v24, v25, v26, .ref a27, .int (nI tp), v29, v30, v31, v32, v33, v34, v35, v36, v37, v38, v39, v40, v41, v42, v43, v44, v45, v46, v47, v48, v49, v50, v51])), (a27, .inl (cB, 4000, .inl f))]) := by
  refine gMi.of (cc := cX9_seen) (maxL := 2) (ret := (some .int)) (by decide) rfl (Nat.le_of_ble_eq_true rfl) (fun p e s m below meth c A ls hx hb hr hlk hml hts hown hin hA hP hK hD hS hN hl => ?_)
  have hown : s.vm.findClass RX9 = some m.cls := hown
  have hl : lv_has ls 2 [(0, .ref h0), (1, .int (nI k))] := hl
  refine lv_iload_n hx hb dX9_seen_0 rfl (lv_at hl 1 rfl) ?_
  refine lv_aload_n hx hb dX9_seen_1 rfl (lv_at hl 0 rfl) ?_
  refine va_get (D := D) (ci := 9) (v := .int (nI tp)) (C := RX9) (T := TX9) (N := 52) hx hb hts (fun _ h => List.mem_cons_of_mem _ (List.mem_append_left _ (List.mem_append_right _ h))) hown hK hP 0 rfl rfl 28 (by decide) (hts (.fieldLink RX9 116 "LitmusHallModel" "taped" "I") (by decide +kernel)) (fun _ h9 => h9) rfl dX9_seen_2 ?_
  refine gy_ge (a := k) (b := tp) (tgt := 17) hx hb (by omega) (by omega) dX9_seen_5 (by decide) (fun c_1 => ?_) (fun c_1 => ?_)
  · refine lv_iconst (v := 0) hx hb dX9_seen_17 (by decide) ?_
    exact gx_iret (w' := [(h0, .inr (9, [v0, v1, v2, v3, v4, v5, v6, v7, v8, v9, v10, v11, v12, v13, v14, v15, v16, v17, v18, v19, v20, v21, v22, v23, v24, v25, v26, .ref a27, .int (nI tp), v29, v30, v31, v32, v33, v34, v35, v36, v37, v38, v39, v40, v41, v42, v43, v44, v45, v46, v47, v48, v49, v50, v51])), (a27, .inl (cB, 4000, .inl f))]) hx hb hr hlk hK hP hD hS (Nat.le_of_ble_eq_true rfl) (Nat.le_of_ble_eq_true rfl) dX9_seen_18 ⟨0, (by first | exact Or.inl ⟨c_1, rfl⟩ | exact Or.inr ⟨c_1, rfl⟩), rfl, rfl⟩
  · refine lv_aload_n hx hb dX9_seen_8 rfl (lv_at hl 0 rfl) ?_
    refine va_get (D := D) (ci := 9) (v := .ref a27) (C := RX9) (T := TX9) (N := 52) hx hb hts (fun _ h => List.mem_cons_of_mem _ (List.mem_append_left _ (List.mem_append_right _ h))) hown hK hP 0 rfl rfl 27 (by decide) (hts (.fieldLink RX9 88 "LitmusHallModel" "tape" "[B") (by decide +kernel)) (fun _ h9 => h9) rfl dX9_seen_9 ?_
    refine lv_iload_n hx hb dX9_seen_12 rfl (lv_at hl 1 rfl) ?_
    refine gy_bld (i := k) hx hb hK hP 1 rfl (by omega) (by omega) dX9_seen_13 ?_
    refine lv_goto (tgt := 18) hx hb dX9_seen_14 (by decide) ?_
    exact gx_iret (w' := [(h0, .inr (9, [v0, v1, v2, v3, v4, v5, v6, v7, v8, v9, v10, v11, v12, v13, v14, v15, v16, v17, v18, v19, v20, v21, v22, v23, v24, v25, v26, .ref a27, .int (nI tp), v29, v30, v31, v32, v33, v34, v35, v36, v37, v38, v39, v40, v41, v42, v43, v44, v45, v46, v47, v48, v49, v50, v51])), (a27, .inl (cB, 4000, .inl f))]) hx hb hr hlk hK hP hD hS (Nat.le_of_ble_eq_true rfl) (Nat.le_of_ble_eq_true rfl) dX9_seen_18 ⟨(f k), (by first | exact Or.inl ⟨c_1, rfl⟩ | exact Or.inr ⟨c_1, rfl⟩), rfl, rfl⟩