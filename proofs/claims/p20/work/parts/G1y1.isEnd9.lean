
section ENN
variable {E : Nat → Prop} {pf cf f g w : Nat → Int32} {L C Mn nx rz cs st : Nat → Nat} {nc n i wd pr d : Nat} {m8 : Int32} {kd cl rg v1 i1 v2 i2 sk : Nat → Int32}
theorem gEd_9 (hS : rS f w nx rz cs st) (hb : bI pf L nc m8 d f) (hG : bG pf L nc) (hP : rP9 C Mn kd cl rg v1 i1 v2 i2 sk pr nc L pf) : gEd f L nc ↔ gEe C Mn nx rz pr := by
  obtain ⟨w', nx', rz', cs', st', hS', _, _, hn, _⟩ := hb
  obtain ⟨hC, hL, _⟩ := hP
  have h3 := hG.1
  have key : ∀ k, k < nc → nx k ≤ L k ∧ (gLo (f (13 + k)) = L k ↔ (L k ≤ nx k ∧ rz k = 0)) := by
    intro k hk
    have hk3 : k < 3 := by omega
    have h8 := hG.2.1 k hk3
    have a := hn k hk
    rw [← rS_ne hS' hk3, rS_ne hS hk3] at a
    obtain ⟨c1, c2, c3, c4, c5, _⟩ := hS.2 k hk3
    have lo : gLo (f (13 + k)) = nx k + 16 * rz k := by
      rw [c1]
      unfold gLo
      rw [gPw_tn c2 (by omega) (gcs_12 c3 c4) c5]
      omega
    rw [lo]
    exact ⟨a, by omega⟩
  constructor
  · intro q k hk
    rw [hC] at hk
    rw [hL k hk]
    exact (key k hk).2.mp (q k hk)
  · intro q k hk
    have := q k (by rw [hC]; exact hk)
    rw [hL k hk] at this
    exact (key k hk).2.mpr this
end ENN
def wsP_x_isEnd9 : List Cond := .code yX9_isEnd cX9_isEnd 5 (some .boolean) :: (([.fieldLink RX9 7 "LitmusHallModel" "cores" "[I", .fieldLink RX9 13 "LitmusHallModel" "many" "[I", .methodLink RX9 267 yX9_rowAt, .static yX9_rowAt, .initialized yX9_rowAt.cls] ++ wsX90) ++ (wsP_c_rowAt9 ++ []))
theorem gW_x_isEnd9 : wsP_x_isEnd9.all goodWord = true := by unfold wsP_x_isEnd9; exact gw_mk (by decide +kernel) (gw_app gW_c_rowAt9 rfl)
set_option maxRecDepth 20000 in
theorem gP_x_isEnd9__c_rowAt9 : GoodIn wsP_x_isEnd9 (va_wsS RX9 267 yX9_rowAt wsP_c_rowAt9) := gw_in (pre := [.methodLink RX9 267 yX9_rowAt, .static yX9_rowAt, .initialized yX9_rowAt.cls]) (by decide +kernel) (fun _ h => List.mem_cons_of_mem _ (List.mem_append_right _ (List.mem_append_left _ h))) gW_c_rowAt9
set_option maxHeartbeats 4000000 in
set_option maxRecDepth 100000 in
theorem x_isEnd9 (l : Launch) (D : va_G) (cI cB cZ : ClassId) (h0 : Nat) (a0 : Nat) (a1 : Nat) (ra : Nat) (v2 : Value) (v3 : Value) (v4 : Value) (v5 : Value) (v6 : Value) (v7 : Value) (v8 : Value) (v9 : Value) (v10 : Value) (v11 : Value) (v12 : Value) (v13 : Value) (v14 : Value) (v15 : Value) (v16 : Value) (v17 : Value) (v18 : Value) (v19 : Value) (v20 : Value) (v21 : Value) (v22 : Value) (v23 : Value) (v24 : Value) (v25 : Value) (v26 : Value) (v27 : Value) (v28 : Value) (v29 : Value) (v30 : Value) (v31 : Value) (v32 : Value) (v33 : Value) (v34 : Value) (v35 : Value) (v36 : Value) (v37 : Value) (v38 : Value) (v39 : Value) (v40 : Value) (v41 : Value) (v42 : Value) (v43 : Value) (v44 : Value) (v45 : Value) (v46 : Value) (v47 : Value) (v48 : Value) (v49 : Value) (v50 : Value) (v51 : Value) (C : Nat → Nat) (Mn : Nat → Nat) (n : Nat) (rf : Nat → Int32) (pr : Nat) (t : Nat) (nx : Nat → Nat) (rz : Nat → Nat) (hpr : pr < 3) (hC : ∀ j, j < 3 → C j ≤ 3) (hM9 : ∀ j, j < 9 → Mn j ≤ 12) (h1 : t + 58 ≤ n) (h2 : n ≤ 522000) (hG : gW9 (fun j => rf (t + j)) nx rz) : gMi l yX9_isEnd wsP_x_isEnd9 ({ frames := 1, cells := 0, slots := 0, locals := 20 }) D cI cB cZ [] [.ref h0, .int (nI pr), .ref ra, .int (nI t)] [(h0, .inr (9, [.ref a0, .ref a1, v2, v3, v4, v5, v6, v7, v8, v9, v10, v11, v12, v13, v14, v15, v16, v17, v18, v19, v20, v21, v22, v23, v24, v25, v26, v27, v28, v29, v30, v31, v32, v33, v34, v35, v36, v37, v38, v39, v40, v41, v42, v43, v44, v45, v46, v47, v48, v49, v50, v51])), (a0, .inl (cI, 3, .inl (fun j => nI (C j)))), (a1, .inl (cI, 9, .inl (fun j => nI (Mn j)))), (ra, .inl (cI, n, .inl rf))] (fun r9 w9 => ∃ z : Int32, (z = 0 ∨ z = 1) ∧ ((z = 1 ∧ gEe C Mn nx rz pr) ∨ (z = 0 ∧ ¬ gEe C Mn nx rz pr)) ∧ r9 = z ∧ w9 = [(h0, .inr (9, [.ref a0, .ref a1, v2, v3, v4, v5, v6, v7, v8, v9, v10, v11, v12, v13, v14, v15, v16, v17, v18, v19, v20, v21, v22, v23, v24, v25, v26, v27, v28, v29, v30, v31, v32, v33, v34, v35, v36, v37, v38, v39, v40, v41, v42, v43, v44, v45, v46, v47, v48, v49, v50, v51])), (a0, .inl (cI, 3, .inl (fun j => nI (C j)))), (a1, .inl (cI, 9, .inl (fun j => nI (Mn j)))), (ra, .inl (cI, n, .inl rf))]) := by
  refine gMi.of (cc := cX9_isEnd) (maxL := 5) (ret := (some .boolean)) (by decide) rfl (Nat.le_of_ble_eq_true rfl) (fun p e s m below meth c A ls hx hb hr hlk hml hts hown hin hA hP hK hD hS hN hl => ?_)
  have hown : s.vm.findClass RX9 = some m.cls := hown
  have hl : lv_has ls 5 [(0, .ref h0), (1, .int (nI pr)), (2, .ref ra), (3, .int (nI t))] := hl
  refine lv_iconst (v := 0) hx hb dX9_isEnd_0 (by decide) ?_
  refine lv_istore (lv' := [(4, .int 0), (0, .ref h0), (1, .int (nI pr)), (2, .ref ra), (3, .int (nI t))]) hx hb dX9_isEnd_1 hl (by decide) rfl (fun ls hl => ?_)
  refine gy_loop0 (I := fun (x9 : Nat) H locs ls => (x9 ≤ 3) ∧ (∀ j, j < x9 → Mn ((3 * pr) + j) ≤ nx j ∧ rz j = 0) ∧ va_P D vwCl [(h0, .inr (9, [.ref a0, .ref a1, v2, v3, v4, v5, v6, v7, v8, v9, v10, v11, v12, v13, v14, v15, v16, v17, v18, v19, v20, v21, v22, v23, v24, v25, v26, v27, v28, v29, v30, v31, v32, v33, v34, v35, v36, v37, v38, v39, v40, v41, v42, v43, v44, v45, v46, v47, v48, v49, v50, v51])), (a0, .inl (cI, 3, .inl (fun j => nI (C j)))), (a1, .inl (cI, 9, .inl (fun j => nI (Mn j)))), (ra, .inl (cI, n, .inl rf))] H ∧ va_D A [(h0, .inr (9, [.ref a0, .ref a1, v2, v3, v4, v5, v6, v7, v8, v9, v10, v11, v12, v13, v14, v15, v16, v17, v18, v19, v20, v21, v22, v23, v24, v25, v26, v27, v28, v29, v30, v31, v32, v33, v34, v35, v36, v37, v38, v39, v40, v41, v42, v43, v44, v45, v46, v47, v48, v49, v50, v51])), (a0, .inl (cI, 3, .inl (fun j => nI (C j)))), (a1, .inl (cI, 9, .inl (fun j => nI (Mn j)))), (ra, .inl (cI, n, .inl rf))] ∧ va_S A s.heap H locs ∧ lv_has ls 5 [(4, .int (nI x9)), (0, .ref h0), (1, .int (nI pr)), (2, .ref ra), (3, .int (nI t))]) (μ := fun (x9 : Nat) => 3 - x9) (fun x9 H locs ls hI ih3 => ?_) 0 ⟨(by show 0 ≤ 3; exact Nat.le_of_ble_eq_true rfl), (fun j h => absurd h (Nat.not_lt_zero j)), hP, hD, hS, lv_sub hl [0, 1, 2, 3, 4] rfl⟩
  obtain ⟨k, rfl⟩ : ∃ z9, z9 = x9 := ⟨_, rfl⟩
  obtain ⟨hi3_0, hi3_1, hP, hD, hS, hl⟩ := hI
  have hi3_0 : k ≤ 3 := hi3_0
  have hi3_1 : ∀ j, j < k → Mn ((3 * pr) + j) ≤ nx j ∧ rz j = 0 := hi3_1
  have hP : va_P D vwCl [(h0, .inr (9, [.ref a0, .ref a1, v2, v3, v4, v5, v6, v7, v8, v9, v10, v11, v12, v13, v14, v15, v16, v17, v18, v19, v20, v21, v22, v23, v24, v25, v26, v27, v28, v29, v30, v31, v32, v33, v34, v35, v36, v37, v38, v39, v40, v41, v42, v43, v44, v45, v46, v47, v48, v49, v50, v51])), (a0, .inl (cI, 3, .inl (fun j => nI (C j)))), (a1, .inl (cI, 9, .inl (fun j => nI (Mn j)))), (ra, .inl (cI, n, .inl rf))] H := hP
  have hD : va_D A [(h0, .inr (9, [.ref a0, .ref a1, v2, v3, v4, v5, v6, v7, v8, v9, v10, v11, v12, v13, v14, v15, v16, v17, v18, v19, v20, v21, v22, v23, v24, v25, v26, v27, v28, v29, v30, v31, v32, v33, v34, v35, v36, v37, v38, v39, v40, v41, v42, v43, v44, v45, v46, v47, v48, v49, v50, v51])), (a0, .inl (cI, 3, .inl (fun j => nI (C j)))), (a1, .inl (cI, 9, .inl (fun j => nI (Mn j)))), (ra, .inl (cI, n, .inl rf))] := hD
  have hS : va_S A s.heap H locs := hS
  have hl : lv_has ls 5 [(4, .int (nI k)), (0, .ref h0), (1, .int (nI pr)), (2, .ref ra), (3, .int (nI t))] := hl
  refine lv_iload hx hb dX9_isEnd_3 (lv_at hl 0 rfl) ?_
  refine lv_aload_n hx hb dX9_isEnd_5 rfl (lv_at hl 1 rfl) ?_
  refine va_get (D := D) (ci := 9) (v := .ref a0) (C := RX9) (T := TX9) (N := 52) hx hb hts (fun _ h => List.mem_cons_of_mem _ (List.mem_append_left _ (List.mem_append_right _ h))) hown hK hP 0 rfl rfl 0 (by decide) (hts (.fieldLink RX9 7 "LitmusHallModel" "cores" "[I") (by decide +kernel)) (fun _ h9 => h9) rfl dX9_isEnd_6 ?_
  refine lv_iload_n hx hb dX9_isEnd_9 rfl (lv_at hl 2 rfl) ?_
  refine gy_ild (i := pr) hx hb hK hP 1 rfl (by omega) (by omega) dX9_isEnd_10 ?_
  refine gx_top (y := nI (C pr)) rfl ?_
  have hC0 := hC pr (by omega)
  refine gy_ge (a := k) (b := (C pr)) (tgt := 54) hx hb (by omega) (by omega) dX9_isEnd_11 (by decide) (fun c_1 => ?_) (fun c_1 => ?_)
  · refine lv_iconst (v := 1) hx hb dX9_isEnd_54 (by decide) ?_
    exact gx_zret (w' := [(h0, .inr (9, [.ref a0, .ref a1, v2, v3, v4, v5, v6, v7, v8, v9, v10, v11, v12, v13, v14, v15, v16, v17, v18, v19, v20, v21, v22, v23, v24, v25, v26, v27, v28, v29, v30, v31, v32, v33, v34, v35, v36, v37, v38, v39, v40, v41, v42, v43, v44, v45, v46, v47, v48, v49, v50, v51])), (a0, .inl (cI, 3, .inl (fun j => nI (C j)))), (a1, .inl (cI, 9, .inl (fun j => nI (Mn j)))), (ra, .inl (cI, n, .inl rf))]) hx hb hr hlk hK hP hD hS (Nat.le_of_ble_eq_true rfl) (Nat.le_of_ble_eq_true rfl) dX9_isEnd_55 rfl ⟨1, (by decide), (Or.inl ⟨rfl, fun j h => hi3_1 j (by omega)⟩), rfl, rfl⟩
  · have hCp := hC pr hpr
    obtain ⟨e1, e2, e3, e4, e5⟩ := hG k (by omega)
    refine lv_aload_n hx hb dX9_isEnd_14 rfl (lv_at hl 3 rfl) ?_
    refine lv_iload_n hx hb dX9_isEnd_15 rfl (lv_at hl 4 rfl) ?_
    refine lv_iload hx hb dX9_isEnd_16 (lv_at hl 0 rfl) ?_
    refine lv_iadd hx hb dX9_isEnd_18 ?_
    refine gx_top (y := nI (t + k)) (nI_add t k) ?_
    refine gy_ild (i := (t + k)) hx hb hK hP 3 rfl (by omega) (by omega) dX9_isEnd_19 ?_
    refine gx_top (y := nI (nx k)) e1 ?_
    refine lv_aload_n hx hb dX9_isEnd_20 rfl (lv_at hl 1 rfl) ?_
    refine va_get (D := D) (ci := 9) (v := .ref a1) (C := RX9) (T := TX9) (N := 52) hx hb hts (fun _ h => List.mem_cons_of_mem _ (List.mem_append_left _ (List.mem_append_right _ h))) hown hK hP 0 rfl rfl 1 (by decide) (hts (.fieldLink RX9 13 "LitmusHallModel" "many" "[I") (by decide +kernel)) (fun _ h9 => h9) rfl dX9_isEnd_21 ?_
    refine lv_iconst (v := 3) hx hb dX9_isEnd_24 (by decide) ?_
    refine lv_iload_n hx hb dX9_isEnd_25 rfl (lv_at hl 2 rfl) ?_
    refine lv_imul hx hb dX9_isEnd_26 ?_
    refine gx_top (y := nI (3 * pr)) (pk_mul 3 pr) ?_
    refine lv_iload hx hb dX9_isEnd_27 (lv_at hl 0 rfl) ?_
    refine lv_iadd hx hb dX9_isEnd_29 ?_
    refine gx_top (y := nI ((3 * pr) + k)) (nI_add (3 * pr) k) ?_
    refine gy_ild (i := ((3 * pr) + k)) hx hb hK hP 2 rfl (by omega) (by omega) dX9_isEnd_30 ?_
    refine gx_top (y := nI (Mn ((3 * pr) + k))) rfl ?_
    have hM0 := hM9 ((3 * pr) + k) (by omega)
    refine gy_lt (a := (nx k)) (b := (Mn ((3 * pr) + k))) (tgt := 46) hx hb (by omega) (by omega) dX9_isEnd_31 (by decide) (fun c_2 => ?_) (fun c_2 => ?_)
    · refine lv_iconst (v := 0) hx hb dX9_isEnd_46 (by decide) ?_
      exact gx_zret (w' := [(h0, .inr (9, [.ref a0, .ref a1, v2, v3, v4, v5, v6, v7, v8, v9, v10, v11, v12, v13, v14, v15, v16, v17, v18, v19, v20, v21, v22, v23, v24, v25, v26, v27, v28, v29, v30, v31, v32, v33, v34, v35, v36, v37, v38, v39, v40, v41, v42, v43, v44, v45, v46, v47, v48, v49, v50, v51])), (a0, .inl (cI, 3, .inl (fun j => nI (C j)))), (a1, .inl (cI, 9, .inl (fun j => nI (Mn j)))), (ra, .inl (cI, n, .inl rf))]) hx hb hr hlk hK hP hD hS (Nat.le_of_ble_eq_true rfl) (Nat.le_of_ble_eq_true rfl) dX9_isEnd_47 rfl ⟨0, (by decide), (Or.inr ⟨rfl, fun h => by have h9 := h k (by omega); omega⟩), rfl, rfl⟩
    · refine lv_aload_n hx hb dX9_isEnd_34 rfl (lv_at hl 3 rfl) ?_
      refine lv_iload_n hx hb dX9_isEnd_35 rfl (lv_at hl 4 rfl) ?_
      refine lv_iload hx hb dX9_isEnd_36 (lv_at hl 0 rfl) ?_
      refine gx_goi (wc := []) (wr := [(h0, .inr (9, [.ref a0, .ref a1, v2, v3, v4, v5, v6, v7, v8, v9, v10, v11, v12, v13, v14, v15, v16, v17, v18, v19, v20, v21, v22, v23, v24, v25, v26, v27, v28, v29, v30, v31, v32, v33, v34, v35, v36, v37, v38, v39, v40, v41, v42, v43, v44, v45, v46, v47, v48, v49, v50, v51])), (a0, .inl (cI, 3, .inl (fun j => nI (C j)))), (a1, .inl (cI, 9, .inl (fun j => nI (Mn j)))), (ra, .inl (cI, n, .inl rf))]) (va_runS (As := [.int (nI k)]) (rest := [.int (nI t), .ref ra]) ⟨hx, hb, hml, hown, hts⟩ (c_rowAt9 l D cI cB cZ k _) (va_cwS 1 hts gP_x_isEnd9__c_rowAt9 rfl rfl rfl (by decide +kernel) ⟨Nat.le_of_ble_eq_true rfl, Nat.le_of_ble_eq_true rfl⟩) (gx_preS hK gN.nil hP hD [] rfl rfl) rfl rfl hl.1 rfl (lv_room (Nat.le_of_ble_eq_true rfl)) dX9_isEnd_38 ⟨Nat.le_of_ble_eq_true rfl, Nat.le_of_ble_eq_true rfl⟩) hP hD hS hA [] [0, 1, 2, 3] rfl rfl rfl (by decide) (fun r1 w1 H locs hp hP hD hS => ?_)
      obtain ⟨h9, rfl⟩ := hp
      have h9 := h9.symm
      subst h9
      refine lv_iadd hx hb dX9_isEnd_41 ?_
      refine gx_top (y := nI (t + (16 + (13 * k)))) (nI_add t (16 + (13 * k))) ?_
      refine gy_ild (i := (t + (16 + (13 * k)))) hx hb hK hP 3 rfl (by omega) (by omega) dX9_isEnd_42 ?_
      refine gx_top (y := nI (rz k)) e2 ?_
      refine lv_if_le (tgt := 48) hx hb dX9_isEnd_43 (by decide) (fun c_3i => ?_) (fun c_3i => ?_)
      · have c_3 : rz k ≤ 0 := (nI_leI (a := rz k) (b := 0) (by omega) (by decide)).mp c_3i
        refine lv_iinc (v := nI (k + 1)) (lv' := [(4, .int (nI (k + 1))), (0, .ref h0), (1, .int (nI pr)), (2, .ref ra), (3, .int (nI t))]) hx hb dX9_isEnd_48 hl (k := 0) rfl (nI_add k 1) (by decide) rfl (fun ls hl => ?_)
        refine lv_goto (tgt := 3) hx hb dX9_isEnd_51 (by decide) ?_
        have hP : va_P D vwCl [(h0, .inr (9, [.ref a0, .ref a1, v2, v3, v4, v5, v6, v7, v8, v9, v10, v11, v12, v13, v14, v15, v16, v17, v18, v19, v20, v21, v22, v23, v24, v25, v26, v27, v28, v29, v30, v31, v32, v33, v34, v35, v36, v37, v38, v39, v40, v41, v42, v43, v44, v45, v46, v47, v48, v49, v50, v51])), (a0, .inl (cI, 3, .inl (fun j => nI (C j)))), (a1, .inl (cI, 9, .inl (fun j => nI (Mn j)))), (ra, .inl (cI, n, .inl rf))] H := hP
        have hD : va_D A [(h0, .inr (9, [.ref a0, .ref a1, v2, v3, v4, v5, v6, v7, v8, v9, v10, v11, v12, v13, v14, v15, v16, v17, v18, v19, v20, v21, v22, v23, v24, v25, v26, v27, v28, v29, v30, v31, v32, v33, v34, v35, v36, v37, v38, v39, v40, v41, v42, v43, v44, v45, v46, v47, v48, v49, v50, v51])), (a0, .inl (cI, 3, .inl (fun j => nI (C j)))), (a1, .inl (cI, 9, .inl (fun j => nI (Mn j)))), (ra, .inl (cI, n, .inl rf))] := hD
        exact ih3 (k + 1) H locs ls ⟨(by show (k + 1) ≤ 3; omega), (fun j hj => by by_cases e9 : j = k; (subst e9; exact ⟨by omega, by omega⟩); exact hi3_1 j (by omega)), hP, hD, hS, lv_sub hl [0, 1, 2, 3, 4] rfl⟩ (by show 3 - (k + 1) < 3 - k; omega)
      · have c_3 : 0 < rz k := Nat.pos_of_ne_zero (fun q9 => c_3i ((nI_leI (a := rz k) (b := 0) (by omega) (by decide)).mpr (Nat.le_of_eq q9)))
        refine lv_iconst (v := 0) hx hb dX9_isEnd_46 (by decide) ?_
        have hP : va_P D vwCl [(h0, .inr (9, [.ref a0, .ref a1, v2, v3, v4, v5, v6, v7, v8, v9, v10, v11, v12, v13, v14, v15, v16, v17, v18, v19, v20, v21, v22, v23, v24, v25, v26, v27, v28, v29, v30, v31, v32, v33, v34, v35, v36, v37, v38, v39, v40, v41, v42, v43, v44, v45, v46, v47, v48, v49, v50, v51])), (a0, .inl (cI, 3, .inl (fun j => nI (C j)))), (a1, .inl (cI, 9, .inl (fun j => nI (Mn j)))), (ra, .inl (cI, n, .inl rf))] H := hP
        have hD : va_D A [(h0, .inr (9, [.ref a0, .ref a1, v2, v3, v4, v5, v6, v7, v8, v9, v10, v11, v12, v13, v14, v15, v16, v17, v18, v19, v20, v21, v22, v23, v24, v25, v26, v27, v28, v29, v30, v31, v32, v33, v34, v35, v36, v37, v38, v39, v40, v41, v42, v43, v44, v45, v46, v47, v48, v49, v50, v51])), (a0, .inl (cI, 3, .inl (fun j => nI (C j)))), (a1, .inl (cI, 9, .inl (fun j => nI (Mn j)))), (ra, .inl (cI, n, .inl rf))] := hD
        exact gx_zret (w' := [(h0, .inr (9, [.ref a0, .ref a1, v2, v3, v4, v5, v6, v7, v8, v9, v10, v11, v12, v13, v14, v15, v16, v17, v18, v19, v20, v21, v22, v23, v24, v25, v26, v27, v28, v29, v30, v31, v32, v33, v34, v35, v36, v37, v38, v39, v40, v41, v42, v43, v44, v45, v46, v47, v48, v49, v50, v51])), (a0, .inl (cI, 3, .inl (fun j => nI (C j)))), (a1, .inl (cI, 9, .inl (fun j => nI (Mn j)))), (ra, .inl (cI, n, .inl rf))]) hx hb hr hlk hK hP hD hS (Nat.le_of_ble_eq_true rfl) (Nat.le_of_ble_eq_true rfl) dX9_isEnd_47 rfl ⟨0, (by decide), (Or.inr ⟨rfl, fun h => by have h9 := h k (by omega); omega⟩), rfl, rfl⟩
