
/-- what ins answers -/
def rIB (ld : Int32) (nc : Nat) (L : Nat → Nat) (pt : Nat → Nat → Nat → Int32) (k i x z : Int32) : Prop := (∃ a b c, ¬ ld = 0 ∧ a < nc ∧ k = nI a ∧ b < L a ∧ i = nI b ∧ c < 8 ∧ x = nI c ∧ z = pt a b c) ∨ (z = (-1) ∧ ∀ a b c, ¬ ld = 0 → a < nc → k = nI a → b < L a → i = nI b → c < 8 → x = nI c → False)
section RX
variable {ld k i x z z9 : Int32} {nc nc9 jk ji jx : Nat} {L L9 : Nat → Nat} {pt pt9 : Nat → Nat → Nat → Int32}
theorem rIB_a (h : ¬ (¬ ld = 0 ∧ ∃ j, j < nc ∧ k = nI j)) : rIB ld nc L pt k i x (-1) := Or.inr ⟨rfl, fun a _ _ h1 h2 h3 _ _ _ _ => h ⟨h1, a, h2, h3⟩⟩
theorem rIB_0 (h : ld = 0) : rIB ld nc L pt k i x (-1) := Or.inr ⟨rfl, fun _ _ _ h1 _ _ _ _ _ _ => h1 h⟩
theorem rIB_k (hc : nc ≤ 3) (h : k < 0) : rIB ld nc L pt k i x (-1) := Or.inr ⟨rfl, fun a _ _ _ h2 h3 _ _ _ _ => by rw [h3] at h; exact nI_pos (by omega) h⟩
theorem rIB_g (hc : nc ≤ 3) (h : nI nc ≤ k) : rIB ld nc L pt k i x (-1) := Or.inr ⟨rfl, fun a _ _ _ h2 h3 _ _ _ _ => by rw [h3] at h; have := (nI_leI (a := nc) (b := a) (by omega) (by omega)).mp h; omega⟩
theorem rIB_b (hc : nc ≤ 3) (hL : ∀ k, k < 3 → L k ≤ 12) (h : i < 0) : rIB ld nc L pt k i x (-1) := Or.inr ⟨rfl, fun a b _ _ h2 _ h4 h5 _ _ => by have := hL a (by omega); rw [h5] at h; exact nI_pos (by omega) h⟩
theorem rIB_c (hc : nc ≤ 3) (hL : ∀ k, k < 3 → L k ≤ 12) (hj : jk < nc) (h : nI (L jk) ≤ i) : rIB ld nc L pt (nI jk) i x (-1) := Or.inr ⟨rfl, fun a b _ _ h2 h3 h4 h5 _ _ => by
  have e := (nI_eq (a := jk) (b := a) (by omega) (by omega)).mp h3
  subst e
  have := hL jk (by omega)
  rw [h5] at h
  have := (nI_leI (a := L jk) (b := b) (by omega) (by omega)).mp h
  omega⟩
theorem rIB_d (h : x < 0) : rIB ld nc L pt k i x (-1) := Or.inr ⟨rfl, fun _ _ c _ _ _ _ _ h6 h7 => by rw [h7] at h; exact nI_pos (by omega) h⟩
theorem rIB_e (h : ¬ x < 8) : rIB ld nc L pt k i x (-1) := Or.inr ⟨rfl, fun _ _ c _ _ _ _ _ h6 h7 => h (by rw [h7]; exact (nI_ltI (a := c) (b := 8) (by omega) (by decide)).mpr h6)⟩
theorem rIB_f (h : 7 < jx) (hj : jx < 2 ^ 31) : rIB ld nc L pt k i (nI jx) (-1) := Or.inr ⟨rfl, fun _ _ c _ _ _ _ _ h6 h7 => by have := (nI_eq (a := jx) (b := c) hj (by omega)).mp h7; omega⟩
theorem rIB_y (h0 : ¬ ld = 0) (h1 : jk < nc) (h2 : ji < L jk) (h3 : jx < 8) (h : z = pt jk ji jx) : rIB ld nc L pt (nI jk) (nI ji) (nI jx) z := Or.inl ⟨jk, ji, jx, h0, h1, rfl, h2, rfl, h3, rfl, h⟩
end RX
def rP8 (kd cl rg v1 i1 v2 i2 sk : Nat → Int32) (p : Nat) : Nat → Int32
  | 0 => kd p
  | 1 => cl p
  | 2 => rg p
  | 3 => v1 p
  | 4 => i1 p
  | 5 => v2 p
  | 6 => i2 p
  | _ => sk p
/-- the reference's loaded PROGRAM is (nc, L, cf, pf) -/
def rMP (ld : Int32) (C Mn : Nat → Nat) (kd cl rg v1 i1 v2 i2 sk ci : Nat → Int32) (nc : Nat) (L : Nat → Nat) (cf pf : Nat → Int32) : Prop := ¬ ld = 0 → C 0 = nc ∧ rPm Mn kd cl rg v1 i1 v2 i2 sk 0 0 nc L pf ∧ ∀ c, c < 4 → ci c = cf c
/-- rows below 36 as they were -/
def gS8 (kd cl rg v1 i1 v2 i2 sk kd9 cl9 rg9 v19 i19 v29 i29 sk9 : Nat → Int32) : Prop := (∀ j, j < 36 → kd9 j = kd j) ∧ (∀ j, j < 36 → cl9 j = cl j) ∧ (∀ j, j < 36 → rg9 j = rg j) ∧ (∀ j, j < 36 → v19 j = v1 j) ∧ (∀ j, j < 36 → i19 j = i1 j) ∧ (∀ j, j < 36 → v29 j = v2 j) ∧ (∀ j, j < 36 → i29 j = i2 j) ∧ (∀ j, j < 36 → sk9 j = sk j)
section RY
variable {ld : Int32} {C C9 Mn Mn9 : Nat → Nat} {kd cl rg v1 i1 v2 i2 sk ci kd9 cl9 rg9 v19 i19 v29 i29 sk9 ci9 kd2 cl2 rg2 v12 i12 v22 i22 sk2 : Nat → Int32} {nc nc9 : Nat} {L L9 : Nat → Nat} {cf pf cf9 pf9 : Nat → Int32}
theorem gS8_r : gS8 kd cl rg v1 i1 v2 i2 sk kd cl rg v1 i1 v2 i2 sk := ⟨fun _ _ => rfl, fun _ _ => rfl, fun _ _ => rfl, fun _ _ => rfl, fun _ _ => rfl, fun _ _ => rfl, fun _ _ => rfl, fun _ _ => rfl⟩
theorem gS8_t (h : gS8 kd cl rg v1 i1 v2 i2 sk kd9 cl9 rg9 v19 i19 v29 i29 sk9) (k : gS8 kd9 cl9 rg9 v19 i19 v29 i29 sk9 kd2 cl2 rg2 v12 i12 v22 i22 sk2) : gS8 kd cl rg v1 i1 v2 i2 sk kd2 cl2 rg2 v12 i12 v22 i22 sk2 := by
  obtain ⟨a1, a2, a3, a4, a5, a6, a7, a8⟩ := h
  obtain ⟨b1, b2, b3, b4, b5, b6, b7, b8⟩ := k
  exact ⟨fun j h => (b1 j h).trans (a1 j h), fun j h => (b2 j h).trans (a2 j h), fun j h => (b3 j h).trans (a3 j h), fun j h => (b4 j h).trans (a4 j h), fun j h => (b5 j h).trans (a5 j h), fun j h => (b6 j h).trans (a6 j h), fun j h => (b7 j h).trans (a7 j h), fun j h => (b8 j h).trans (a8 j h)⟩
theorem rPm_s8 (hc : nc ≤ 3) (h : rPm Mn kd cl rg v1 i1 v2 i2 sk 0 0 nc L pf) (hM : ∀ j, j < 3 → Mn9 j = Mn j) (k : gS8 kd cl rg v1 i1 v2 i2 sk kd9 cl9 rg9 v19 i19 v29 i29 sk9) : rPm Mn9 kd9 cl9 rg9 v19 i19 v29 i29 sk9 0 0 nc L pf := by
  obtain ⟨b1, b2, b3, b4, b5, b6, b7, b8⟩ := k
  intro c hk
  obtain ⟨h1, h2, h3⟩ := h c hk
  refine ⟨(hM _ (by omega)).trans h1, h2, fun i hi => ?_⟩
  obtain ⟨g1, g2⟩ := h3 i hi
  exact ⟨(b1 _ (by omega)).trans g1, rE7_f g2 (b2 _ (by omega)) (b3 _ (by omega)) (b4 _ (by omega)) (b5 _ (by omega)) (b6 _ (by omega)) (b7 _ (by omega)) (b8 _ (by omega))⟩
theorem rMP_s8 (hC3 : C 0 ≤ 3) (h : rMP ld C Mn kd cl rg v1 i1 v2 i2 sk ci nc L cf pf) (hC : C9 0 = C 0) (hM : ∀ j, j < 3 → Mn9 j = Mn j) (k : gS8 kd cl rg v1 i1 v2 i2 sk kd9 cl9 rg9 v19 i19 v29 i29 sk9) (hc : ∀ c, c < 4 → ci9 c = ci c) : rMP ld C9 Mn9 kd9 cl9 rg9 v19 i19 v29 i29 sk9 ci9 nc L cf pf := by
  intro hl
  obtain ⟨h1, h2, h3⟩ := h hl
  exact ⟨hC.trans h1, rPm_s8 (by omega) h2 hM k, fun c h => (hc c h).trans (h3 c h)⟩
theorem rMP_r {X : (Nat × Nat) × Nat × Int32 × (Nat → Int32) × (Nat → Nat) × (Nat → Int32)} (h : rPM C9 Mn9 kd9 cl9 rg9 v19 i19 v29 i29 sk9 ci9 X) (k : rPrg X nc9 pf9 L9 cf9) : rMP ld C9 Mn9 kd9 cl9 rg9 v19 i19 v29 i29 sk9 ci9 nc9 L9 cf9 pf9 := by
  intro _
  obtain ⟨_, _, h3, h4, h5⟩ := h
  obtain ⟨_, _, k3, k4, k5, k6⟩ := k
  subst k3; subst k4; subst k5; subst k6
  refine ⟨h3, ?_, h5⟩
  rw [h3] at h4
  exact h4
theorem rMP_i (h : rMP ld C Mn kd cl rg v1 i1 v2 i2 sk ci nc L cf pf) : ¬ ld = 0 → C 0 = nc ∧ ∀ a, a < nc → Mn a = L a ∧ ∀ b, b < L a → ∀ c, c < 8 → rP8 kd cl rg v1 i1 v2 i2 sk ((12 * a) + b) c = pf ((((a * 8) + b) * 8) + c) := by
  intro hl
  obtain ⟨h1, h2, _⟩ := h hl
  refine ⟨h1, fun a ha => ?_⟩
  obtain ⟨g1, _, g3⟩ := h2 a ha
  rw [show 0 + a = a by omega] at g1
  refine ⟨g1, fun b hb c hc => ?_⟩
  obtain ⟨q0, q1, q2, q3, q4, q5, q6, q7⟩ := g3 b hb
  rw [show 0 + (12 * a) + b = (12 * a) + b by omega] at q0 q1 q2 q3 q4 q5 q6 q7
  rcases (show c = 0 ∨ c = 1 ∨ c = 2 ∨ c = 3 ∨ c = 4 ∨ c = 5 ∨ c = 6 ∨ c = 7 by omega) with e | e | e | e | e | e | e | e <;> subst e
  · exact q0
  · exact q1
  · exact q2
  · exact q3
  · exact q4
  · exact q5
  · exact q6
  · exact q7
end RY
theorem gy_hc0 {x : Int32} {nc : Nat} (hc : nc ≤ 3) (h : x < 0) : ¬ ∃ j, j < nc ∧ x = nI j := by
  rintro ⟨j, hj, e⟩
  rw [e] at h
  exact nI_pos (by omega) h
theorem gy_hc1 {x : Int32} {nc : Nat} (hc : nc ≤ 3) (h : nI nc ≤ x) : ¬ ∃ j, j < nc ∧ x = nI j := by
  rintro ⟨j, hj, e⟩
  rw [e] at h
  have := (nI_leI (a := nc) (b := j) (by omega) (by omega)).mp h
  omega
def wsP_x_hasCore : List Cond := .code yX8_hasCore cX8_hasCore 2 (some .boolean) :: (([.fieldLink RX8 79 "LitmusHall" "loaded" "Z", .fieldLink RX8 27 "LitmusHall" "program" "LLitmusHall$Program;", .fieldLink RX8 108 "LitmusHall$Program" "cores" "I"] ++ wsX80 ++ wsX40) ++ [])
theorem gW_x_hasCore : wsP_x_hasCore.all goodWord = true := by unfold wsP_x_hasCore; exact gw_mk (by decide +kernel) rfl
set_option maxHeartbeats 4000000 in
set_option maxRecDepth 100000 in
theorem x_hasCore (l : Launch) (D : va_G) (cI cB cZ : ClassId) (h0 : Nat) (p0 : Nat) (v0 : Value) (v1 : Value) (v2 : Value) (v3 : Value) (v6 : Value) (v7 : Value) (v8 : Value) (v9 : Value) (v10 : Value) (v11 : Value) (w1 : Value) (w2 : Value) (w3 : Value) (ld : Int32) (nc : Nat) (x : Int32) (hc : nc ≤ 3) : gMi l yX8_hasCore wsP_x_hasCore ({ frames := 0, cells := 0, slots := 0, locals := 0 }) D cI cB cZ [] [.ref h0, .int x] [(h0, .inr (8, [v0, v1, v2, v3, .int ld, .ref p0, v6, v7, v8, v9, v10, v11])), (p0, .inr (4, [.int (nI nc), w1, w2, w3]))] (fun r9 w9 => ∃ z : Int32, (z = 0 ∨ (z = 1 ∧ ¬ ld = 0 ∧ ∃ j, j < nc ∧ x = nI j)) ∧ ((z = 1 ∧ ¬ ld = 0 ∧ ∃ j, j < nc ∧ x = nI j) ∨ (z = 0 ∧ ¬ (¬ ld = 0 ∧ ∃ j, j < nc ∧ x = nI j))) ∧ r9 = z ∧ w9 = [(h0, .inr (8, [v0, v1, v2, v3, .int ld, .ref p0, v6, v7, v8, v9, v10, v11])), (p0, .inr (4, [.int (nI nc), w1, w2, w3]))]) := by
  refine gMi.of (cc := cX8_hasCore) (maxL := 2) (ret := (some .boolean)) (by decide) rfl (Nat.le_of_ble_eq_true rfl) (fun p e s m below meth c A ls hx hb hr hlk hml hts hown hin hA hP hK hD hS hN hl => ?_)
  have hown : s.vm.findClass RX8 = some m.cls := hown
  have hl : lv_has ls 2 [(0, .ref h0), (1, .int x)] := hl
  refine lv_aload_n hx hb dX8_hasCore_0 rfl (lv_at hl 0 rfl) ?_
  refine va_get (D := D) (ci := 8) (v := .int ld) (C := RX8) (T := TX8) (N := 12) hx hb hts (fun _ h => List.mem_cons_of_mem _ (List.mem_append_left _ (List.mem_append_left _ (List.mem_append_right _ h)))) hown hK hP 0 rfl rfl 4 (by decide) (hts (.fieldLink RX8 79 "LitmusHall" "loaded" "Z") (by decide +kernel)) (fun _ h9 => h9) rfl dX8_hasCore_1 ?_
  refine lv_if_eq (tgt := 26) hx hb dX8_hasCore_4 (by decide) (fun c_1 => ?_) (fun c_1 => ?_)
  · refine lv_iconst (v := 0) hx hb dX8_hasCore_26 (by decide) ?_
    exact gx_zret (w' := [(h0, .inr (8, [v0, v1, v2, v3, .int ld, .ref p0, v6, v7, v8, v9, v10, v11])), (p0, .inr (4, [.int (nI nc), w1, w2, w3]))]) hx hb hr hlk hK hP hD hS (Nat.le_of_ble_eq_true rfl) (Nat.le_of_ble_eq_true rfl) dX8_hasCore_27 rfl ⟨0, (by first | exact Or.inl rfl | exact Or.inr ⟨rfl, c_1, gy_lt2 (by omega) c_1 c_1⟩), (by first | exact Or.inl ⟨rfl, c_1, gy_lt2 (by omega) c_1 c_1⟩ | exact Or.inr ⟨rfl, fun h => h.1 c_1⟩ | exact Or.inr ⟨rfl, fun h => gy_hc0 hc c_1 h.2⟩ | exact Or.inr ⟨rfl, fun h => gy_hc1 hc c_1 h.2⟩), rfl, rfl⟩
  · refine lv_iload_n hx hb dX8_hasCore_7 rfl (lv_at hl 1 rfl) ?_
    refine lv_if_lt (tgt := 26) hx hb dX8_hasCore_8 (by decide) (fun c_2 => ?_) (fun c_2 => ?_)
    · refine lv_iconst (v := 0) hx hb dX8_hasCore_26 (by decide) ?_
      exact gx_zret (w' := [(h0, .inr (8, [v0, v1, v2, v3, .int ld, .ref p0, v6, v7, v8, v9, v10, v11])), (p0, .inr (4, [.int (nI nc), w1, w2, w3]))]) hx hb hr hlk hK hP hD hS (Nat.le_of_ble_eq_true rfl) (Nat.le_of_ble_eq_true rfl) dX8_hasCore_27 rfl ⟨0, (by first | exact Or.inl rfl | exact Or.inr ⟨rfl, c_1, gy_lt2 (by omega) c_1 c_2⟩), (by first | exact Or.inl ⟨rfl, c_1, gy_lt2 (by omega) c_1 c_2⟩ | exact Or.inr ⟨rfl, fun h => h.1 c_2⟩ | exact Or.inr ⟨rfl, fun h => gy_hc0 hc c_2 h.2⟩ | exact Or.inr ⟨rfl, fun h => gy_hc1 hc c_2 h.2⟩), rfl, rfl⟩
    · refine lv_iload_n hx hb dX8_hasCore_11 rfl (lv_at hl 1 rfl) ?_
      refine lv_aload_n hx hb dX8_hasCore_12 rfl (lv_at hl 0 rfl) ?_
      refine va_get (D := D) (ci := 8) (v := .ref p0) (C := RX8) (T := TX8) (N := 12) hx hb hts (fun _ h => List.mem_cons_of_mem _ (List.mem_append_left _ (List.mem_append_left _ (List.mem_append_right _ h)))) hown hK hP 0 rfl rfl 5 (by decide) (hts (.fieldLink RX8 27 "LitmusHall" "program" "LLitmusHall$Program;") (by decide +kernel)) (fun _ h9 => h9) rfl dX8_hasCore_13 ?_
      refine va_get (D := D) (ci := 4) (v := .int (nI nc)) (C := RX4) (T := TX4) (N := 4) hx hb hts (fun _ h => List.mem_cons_of_mem _ (List.mem_append_left _ (List.mem_append_right _ h))) hown hK hP 1 rfl rfl 0 (by decide) (hts (.fieldLink RX8 108 "LitmusHall$Program" "cores" "I") (by decide +kernel)) (fun _ h9 => h9) rfl dX8_hasCore_16 ?_
      refine lv_icmp_ge (tgt := 26) hx hb dX8_hasCore_19 (by decide) (fun c_3 => ?_) (fun c_3 => ?_)
      · refine lv_iconst (v := 0) hx hb dX8_hasCore_26 (by decide) ?_
        exact gx_zret (w' := [(h0, .inr (8, [v0, v1, v2, v3, .int ld, .ref p0, v6, v7, v8, v9, v10, v11])), (p0, .inr (4, [.int (nI nc), w1, w2, w3]))]) hx hb hr hlk hK hP hD hS (Nat.le_of_ble_eq_true rfl) (Nat.le_of_ble_eq_true rfl) dX8_hasCore_27 rfl ⟨0, (by first | exact Or.inl rfl | exact Or.inr ⟨rfl, c_1, gy_lt2 (by omega) c_2 c_3⟩), (by first | exact Or.inl ⟨rfl, c_1, gy_lt2 (by omega) c_2 c_3⟩ | exact Or.inr ⟨rfl, fun h => h.1 c_3⟩ | exact Or.inr ⟨rfl, fun h => gy_hc0 hc c_3 h.2⟩ | exact Or.inr ⟨rfl, fun h => gy_hc1 hc c_3 h.2⟩), rfl, rfl⟩
      · refine lv_iconst (v := 1) hx hb dX8_hasCore_22 (by decide) ?_
        refine lv_goto (tgt := 27) hx hb dX8_hasCore_23 (by decide) ?_
        exact gx_zret (w' := [(h0, .inr (8, [v0, v1, v2, v3, .int ld, .ref p0, v6, v7, v8, v9, v10, v11])), (p0, .inr (4, [.int (nI nc), w1, w2, w3]))]) hx hb hr hlk hK hP hD hS (Nat.le_of_ble_eq_true rfl) (Nat.le_of_ble_eq_true rfl) dX8_hasCore_27 rfl ⟨1, (by first | exact Or.inl rfl | exact Or.inr ⟨rfl, c_1, gy_lt2 (by omega) c_2 c_3⟩), (by first | exact Or.inl ⟨rfl, c_1, gy_lt2 (by omega) c_2 c_3⟩ | exact Or.inr ⟨rfl, fun h => h.1 c_3⟩ | exact Or.inr ⟨rfl, fun h => gy_hc0 hc c_3 h.2⟩ | exact Or.inr ⟨rfl, fun h => gy_hc1 hc c_3 h.2⟩), rfl, rfl⟩
def wsP_x_ins8 : List Cond := .code yX8_ins cX8_ins 4 (some .int) :: (([.methodLink RX8 96 yX8_hasCore, .instanceMethod yX8_hasCore, .selects RX8 yX8_hasCore yX8_hasCore, .initialized RX8, .fieldLink RX8 27 "LitmusHall" "program" "LLitmusHall$Program;", .fieldLink RX8 100 "LitmusHall$Program" "lengths" "[I", .methodLink RX8 104 yX4_part, .instanceMethod yX4_part, .selects RX4 yX4_part yX4_part, .initialized RX4] ++ wsX80 ++ wsX40) ++ (wsP_x_hasCore ++ (wsP_c_part ++ [])))
set_option maxRecDepth 20000 in
theorem gP_x_ins8__x_hasCore : GoodIn wsP_x_ins8 (wsV RX8 96 RX8 yX8_hasCore wsP_x_hasCore) := gw_in (pre := [.methodLink RX8 96 yX8_hasCore, .instanceMethod yX8_hasCore, .selects RX8 yX8_hasCore yX8_hasCore, .initialized RX8]) (by decide +kernel) (fun _ h => List.mem_cons_of_mem _ (List.mem_append_right _ (List.mem_append_left _ h))) gW_x_hasCore
set_option maxRecDepth 20000 in
theorem gP_x_ins8__c_part : GoodIn wsP_x_ins8 (wsV RX8 104 RX4 yX4_part wsP_c_part) := gw_in (pre := [.methodLink RX8 104 yX4_part, .instanceMethod yX4_part, .selects RX4 yX4_part yX4_part, .initialized RX4]) (by decide +kernel) (fun _ h => List.mem_cons_of_mem _ (List.mem_append_right _ (List.mem_append_right _ (List.mem_append_left _ h)))) gW_c_part
set_option maxHeartbeats 4000000 in
set_option maxRecDepth 100000 in
theorem x_ins8 (l : Launch) (D : va_G) (cI cB cZ : ClassId) (h0 : Nat) (ld : Int32) (v0 : Value) (v1 : Value) (v2 : Value) (v3 : Value) (v6 : Value) (v7 : Value) (v8 : Value) (v9 : Value) (v10 : Value) (v11 : Value) (p0 : Nat) (b1 : Nat) (b2 : Nat) (b3 : Nat) (nc : Nat) (L : Nat → Nat) (cf : Nat → Int32) (pf : Nat → Int32) (k : Int32) (i : Int32) (x : Int32) (hc : nc ≤ 3) (hL : ∀ k, k < 3 → L k ≤ 8) : gMi l yX8_ins wsP_x_ins8 ({ frames := 2, cells := 0, slots := 0, locals := 44 }) D cI cB cZ [] [.ref h0, .int k, .int i, .int x] [(h0, .inr (8, [v0, v1, v2, v3, .int ld, .ref p0, v6, v7, v8, v9, v10, v11])), (p0, .inr (4, [.int (nI nc), .ref b1, .ref b2, .ref b3])), (b1, .inl (cI, 3, .inl (fun j => nI (L j)))), (b2, .inl (cI, 4, .inl cf)), (b3, .inl (cI, 192, .inl pf))] (fun r9 w9 => ∃ z : Int32, (rIB ld nc L (fun a b c => pf ((((a * 8) + b) * 8) + c)) k i x z) ∧ r9 = z ∧ w9 = [(h0, .inr (8, [v0, v1, v2, v3, .int ld, .ref p0, v6, v7, v8, v9, v10, v11])), (p0, .inr (4, [.int (nI nc), .ref b1, .ref b2, .ref b3])), (b1, .inl (cI, 3, .inl (fun j => nI (L j)))), (b2, .inl (cI, 4, .inl cf)), (b3, .inl (cI, 192, .inl pf))]) := by
  refine gMi.of (cc := cX8_ins) (maxL := 4) (ret := (some .int)) (by decide) rfl (Nat.le_of_ble_eq_true rfl) (fun p e s m below meth c A ls hx hb hr hlk hml hts hown hin hA hP hK hD hS hN hl => ?_)
  have hown : s.vm.findClass RX8 = some m.cls := hown
  have hl : lv_has ls 4 [(0, .ref h0), (1, .int k), (2, .int i), (3, .int x)] := hl
  refine lv_aload_n hx hb dX8_ins_0 rfl (lv_at hl 0 rfl) ?_
  refine lv_iload_n hx hb dX8_ins_1 rfl (lv_at hl 1 rfl) ?_
  refine gx_goi (wc := [(h0, .inr (8, [v0, v1, v2, v3, .int ld, .ref p0, v6, v7, v8, v9, v10, v11])), (p0, .inr (4, [.int (nI nc), .ref b1, .ref b2, .ref b3]))]) (wr := [(b1, .inl (cI, 3, .inl (fun j => nI (L j)))), (b2, .inl (cI, 4, .inl cf)), (b3, .inl (cI, 192, .inl pf))]) (va_runV (As := [.int k]) (rest := []) ⟨hx, hb, hml, hown, hts⟩ (x_hasCore l D cI cB cZ h0 p0 (v0) (v1) (v2) (v3) (v6) (v7) (v8) (v9) (v10) (v11) (.ref b1) (.ref b2) (.ref b3) ld nc k (by omega) _) (cwV 1 hts gP_x_ins8__x_hasCore rfl rfl rfl (by decide +kernel) ⟨Nat.le_of_ble_eq_true rfl, Nat.le_of_ble_eq_true rfl⟩) (gx_preV (ci := 8) (q0 := 0) hK gN.nil hP hD [0, 1] rfl rfl rfl rfl) rfl rfl hl.1 rfl (lv_room (Nat.le_of_ble_eq_true rfl)) dX8_ins_2 ⟨Nat.le_of_ble_eq_true rfl, Nat.le_of_ble_eq_true rfl⟩) hP hD hS hA [0, 1] [2, 3, 4] rfl rfl rfl (by decide) (fun r1 w1 H locs hp hP hD hS => ?_)
  obtain ⟨e_1, hq_2, hx2_0, h9, rfl⟩ := hp
  have h9 := h9.symm
  subst h9
  have hq_2 : e_1 = 0 ∨ (e_1 = 1 ∧ ¬ ld = 0 ∧ ∃ j, j < nc ∧ k = nI j) := hq_2
  have hx2_0 : (e_1 = 1 ∧ ¬ ld = 0 ∧ ∃ j, j < nc ∧ k = nI j) ∨ (e_1 = 0 ∧ ¬ (¬ ld = 0 ∧ ∃ j, j < nc ∧ k = nI j)) := hx2_0
  refine lv_if_eq (tgt := 35) hx hb dX8_ins_5 (by decide) (fun c_3 => ?_) (fun c_3 => ?_)
  · refine lv_iconst (v := (-1)) hx hb dX8_ins_35 (by decide) ?_
    have hP := hP.sub (ws' := [(h0, .inr (8, [v0, v1, v2, v3, .int ld, .ref p0, v6, v7, v8, v9, v10, v11])), (p0, .inr (4, [.int (nI nc), .ref b1, .ref b2, .ref b3])), (b1, .inl (cI, 3, .inl (fun j => nI (L j)))), (b2, .inl (cI, 4, .inl cf)), (b3, .inl (cI, 192, .inl pf))]) [3, 4, 0, 1, 2] rfl
    have hD := hD.sub (ws' := [(h0, .inr (8, [v0, v1, v2, v3, .int ld, .ref p0, v6, v7, v8, v9, v10, v11])), (p0, .inr (4, [.int (nI nc), .ref b1, .ref b2, .ref b3])), (b1, .inl (cI, 3, .inl (fun j => nI (L j)))), (b2, .inl (cI, 4, .inl cf)), (b3, .inl (cI, 192, .inl pf))]) [3, 4, 0, 1, 2] (by decide) rfl
    exact gx_iret (w' := [(h0, .inr (8, [v0, v1, v2, v3, .int ld, .ref p0, v6, v7, v8, v9, v10, v11])), (p0, .inr (4, [.int (nI nc), .ref b1, .ref b2, .ref b3])), (b1, .inl (cI, 3, .inl (fun j => nI (L j)))), (b2, .inl (cI, 4, .inl cf)), (b3, .inl (cI, 192, .inl pf))]) hx hb hr hlk hK hP hD hS (Nat.le_of_ble_eq_true rfl) (Nat.le_of_ble_eq_true rfl) dX8_ins_36 ⟨(-1), (by first | exact rIB_a (hx2_0.resolve_left (fun q => absurd (q.1.symm.trans c_3) (by decide))).2 | exact rIB_d c_3 | exact rIB_e c_3 | exact rIB_b hc (fun k h => Nat.le_trans (hL k h) (by decide)) c_3 | exact rIB_c hc (fun k h => Nat.le_trans (hL k h) (by decide)) hjk c_3), rfl, rfl⟩
  · obtain ⟨jk, hjk, rfl⟩ := ((hq_2).resolve_left c_3).2.2
    have hld := ((hx2_0.resolve_right (fun q => c_3 q.1)).2).1
    have hl : lv_has ls 4 [(0, .ref h0), (1, .int (nI jk)), (2, .int i), (3, .int x)] := hl
    refine lv_iload_n hx hb dX8_ins_8 rfl (lv_at hl 2 rfl) ?_
    refine lv_if_lt (tgt := 35) hx hb dX8_ins_9 (by decide) (fun c_4 => ?_) (fun c_4 => ?_)
    · refine lv_iconst (v := (-1)) hx hb dX8_ins_35 (by decide) ?_
      have hP := hP.sub (ws' := [(h0, .inr (8, [v0, v1, v2, v3, .int ld, .ref p0, v6, v7, v8, v9, v10, v11])), (p0, .inr (4, [.int (nI nc), .ref b1, .ref b2, .ref b3])), (b1, .inl (cI, 3, .inl (fun j => nI (L j)))), (b2, .inl (cI, 4, .inl cf)), (b3, .inl (cI, 192, .inl pf))]) [3, 4, 0, 1, 2] rfl
      have hD := hD.sub (ws' := [(h0, .inr (8, [v0, v1, v2, v3, .int ld, .ref p0, v6, v7, v8, v9, v10, v11])), (p0, .inr (4, [.int (nI nc), .ref b1, .ref b2, .ref b3])), (b1, .inl (cI, 3, .inl (fun j => nI (L j)))), (b2, .inl (cI, 4, .inl cf)), (b3, .inl (cI, 192, .inl pf))]) [3, 4, 0, 1, 2] (by decide) rfl
      exact gx_iret (w' := [(h0, .inr (8, [v0, v1, v2, v3, .int ld, .ref p0, v6, v7, v8, v9, v10, v11])), (p0, .inr (4, [.int (nI nc), .ref b1, .ref b2, .ref b3])), (b1, .inl (cI, 3, .inl (fun j => nI (L j)))), (b2, .inl (cI, 4, .inl cf)), (b3, .inl (cI, 192, .inl pf))]) hx hb hr hlk hK hP hD hS (Nat.le_of_ble_eq_true rfl) (Nat.le_of_ble_eq_true rfl) dX8_ins_36 ⟨(-1), (by first | exact rIB_a (hx2_0.resolve_left (fun q => absurd (q.1.symm.trans c_4) (by decide))).2 | exact rIB_d c_4 | exact rIB_e c_4 | exact rIB_b hc (fun k h => Nat.le_trans (hL k h) (by decide)) c_4 | exact rIB_c hc (fun k h => Nat.le_trans (hL k h) (by decide)) hjk c_4), rfl, rfl⟩
    · refine lv_iload_n hx hb dX8_ins_12 rfl (lv_at hl 2 rfl) ?_
      refine lv_aload_n hx hb dX8_ins_13 rfl (lv_at hl 0 rfl) ?_
      refine va_get (D := D) (ci := 8) (v := .ref p0) (C := RX8) (T := TX8) (N := 12) hx hb hts (fun _ h => List.mem_cons_of_mem _ (List.mem_append_left _ (List.mem_append_left _ (List.mem_append_right _ h)))) hown hK hP 3 rfl rfl 5 (by decide) (hts (.fieldLink RX8 27 "LitmusHall" "program" "LLitmusHall$Program;") (by decide +kernel)) (fun _ h9 => h9) rfl dX8_ins_14 ?_
      refine va_get (D := D) (ci := 4) (v := .ref b1) (C := RX4) (T := TX4) (N := 4) hx hb hts (fun _ h => List.mem_cons_of_mem _ (List.mem_append_left _ (List.mem_append_right _ h))) hown hK hP 4 rfl rfl 1 (by decide) (hts (.fieldLink RX8 100 "LitmusHall$Program" "lengths" "[I") (by decide +kernel)) (fun _ h9 => h9) rfl dX8_ins_17 ?_
      refine lv_iload_n hx hb dX8_ins_20 rfl (lv_at hl 1 rfl) ?_
      refine gy_ild (i := jk) hx hb hK hP 0 rfl (by omega) (by omega) dX8_ins_21 ?_
      refine gx_top (y := nI (L jk)) rfl ?_
      have hL0 := hL jk (by omega)
      refine lv_icmp_ge (tgt := 35) hx hb dX8_ins_22 (by decide) (fun c_5 => ?_) (fun c_5 => ?_)
      · refine lv_iconst (v := (-1)) hx hb dX8_ins_35 (by decide) ?_
        have hP := hP.sub (ws' := [(h0, .inr (8, [v0, v1, v2, v3, .int ld, .ref p0, v6, v7, v8, v9, v10, v11])), (p0, .inr (4, [.int (nI nc), .ref b1, .ref b2, .ref b3])), (b1, .inl (cI, 3, .inl (fun j => nI (L j)))), (b2, .inl (cI, 4, .inl cf)), (b3, .inl (cI, 192, .inl pf))]) [3, 4, 0, 1, 2] rfl
        have hD := hD.sub (ws' := [(h0, .inr (8, [v0, v1, v2, v3, .int ld, .ref p0, v6, v7, v8, v9, v10, v11])), (p0, .inr (4, [.int (nI nc), .ref b1, .ref b2, .ref b3])), (b1, .inl (cI, 3, .inl (fun j => nI (L j)))), (b2, .inl (cI, 4, .inl cf)), (b3, .inl (cI, 192, .inl pf))]) [3, 4, 0, 1, 2] (by decide) rfl
        exact gx_iret (w' := [(h0, .inr (8, [v0, v1, v2, v3, .int ld, .ref p0, v6, v7, v8, v9, v10, v11])), (p0, .inr (4, [.int (nI nc), .ref b1, .ref b2, .ref b3])), (b1, .inl (cI, 3, .inl (fun j => nI (L j)))), (b2, .inl (cI, 4, .inl cf)), (b3, .inl (cI, 192, .inl pf))]) hx hb hr hlk hK hP hD hS (Nat.le_of_ble_eq_true rfl) (Nat.le_of_ble_eq_true rfl) dX8_ins_36 ⟨(-1), (by first | exact rIB_a (hx2_0.resolve_left (fun q => absurd (q.1.symm.trans c_5) (by decide))).2 | exact rIB_d c_5 | exact rIB_e c_5 | exact rIB_b hc (fun k h => Nat.le_trans (hL k h) (by decide)) c_5 | exact rIB_c hc (fun k h => Nat.le_trans (hL k h) (by decide)) hjk c_5), rfl, rfl⟩
      · obtain ⟨ji, hji, rfl⟩ := gy_lt2 (n := L jk) (by omega) c_4 c_5
        have hl : lv_has ls 4 [(0, .ref h0), (1, .int (nI jk)), (2, .int (nI ji)), (3, .int x)] := hl
        refine lv_iload_n hx hb dX8_ins_25 rfl (lv_at hl 3 rfl) ?_
        refine lv_if_lt (tgt := 35) hx hb dX8_ins_26 (by decide) (fun c_6 => ?_) (fun c_6 => ?_)
        · refine lv_iconst (v := (-1)) hx hb dX8_ins_35 (by decide) ?_
          have hP := hP.sub (ws' := [(h0, .inr (8, [v0, v1, v2, v3, .int ld, .ref p0, v6, v7, v8, v9, v10, v11])), (p0, .inr (4, [.int (nI nc), .ref b1, .ref b2, .ref b3])), (b1, .inl (cI, 3, .inl (fun j => nI (L j)))), (b2, .inl (cI, 4, .inl cf)), (b3, .inl (cI, 192, .inl pf))]) [3, 4, 0, 1, 2] rfl
          have hD := hD.sub (ws' := [(h0, .inr (8, [v0, v1, v2, v3, .int ld, .ref p0, v6, v7, v8, v9, v10, v11])), (p0, .inr (4, [.int (nI nc), .ref b1, .ref b2, .ref b3])), (b1, .inl (cI, 3, .inl (fun j => nI (L j)))), (b2, .inl (cI, 4, .inl cf)), (b3, .inl (cI, 192, .inl pf))]) [3, 4, 0, 1, 2] (by decide) rfl
          exact gx_iret (w' := [(h0, .inr (8, [v0, v1, v2, v3, .int ld, .ref p0, v6, v7, v8, v9, v10, v11])), (p0, .inr (4, [.int (nI nc), .ref b1, .ref b2, .ref b3])), (b1, .inl (cI, 3, .inl (fun j => nI (L j)))), (b2, .inl (cI, 4, .inl cf)), (b3, .inl (cI, 192, .inl pf))]) hx hb hr hlk hK hP hD hS (Nat.le_of_ble_eq_true rfl) (Nat.le_of_ble_eq_true rfl) dX8_ins_36 ⟨(-1), (by first | exact rIB_a (hx2_0.resolve_left (fun q => absurd (q.1.symm.trans c_6) (by decide))).2 | exact rIB_d c_6 | exact rIB_e c_6 | exact rIB_b hc (fun k h => Nat.le_trans (hL k h) (by decide)) c_6 | exact rIB_c hc (fun k h => Nat.le_trans (hL k h) (by decide)) hjk c_6), rfl, rfl⟩
        · refine lv_iload_n hx hb dX8_ins_29 rfl (lv_at hl 3 rfl) ?_
          refine lv_bipush (v := 8) hx hb dX8_ins_30 (by decide) ?_
          refine lv_icmp_lt (tgt := 37) hx hb dX8_ins_32 (by decide) (fun c_7 => ?_) (fun c_7 => ?_)
          · obtain ⟨jw, hjw, rfl⟩ := gy_inc (c := 8) (by decide) c_6 c_7
            have hl : lv_has ls 4 [(0, .ref h0), (1, .int (nI jk)), (2, .int (nI ji)), (3, .int (nI jw))] := hl
            refine lv_aload_n hx hb dX8_ins_37 rfl (lv_at hl 0 rfl) ?_
            refine va_get (D := D) (ci := 8) (v := .ref p0) (C := RX8) (T := TX8) (N := 12) hx hb hts (fun _ h => List.mem_cons_of_mem _ (List.mem_append_left _ (List.mem_append_left _ (List.mem_append_right _ h)))) hown hK hP 3 rfl rfl 5 (by decide) (hts (.fieldLink RX8 27 "LitmusHall" "program" "LLitmusHall$Program;") (by decide +kernel)) (fun _ h9 => h9) rfl dX8_ins_38 ?_
            refine lv_iload_n hx hb dX8_ins_41 rfl (lv_at hl 1 rfl) ?_
            refine lv_iload_n hx hb dX8_ins_42 rfl (lv_at hl 2 rfl) ?_
            refine lv_iload_n hx hb dX8_ins_43 rfl (lv_at hl 3 rfl) ?_
            refine gx_goi (wc := [(p0, .inr (4, [.int (nI nc), .ref b1, .ref b2, .ref b3])), (b3, .inl (cI, 192, .inl pf))]) (wr := [(b1, .inl (cI, 3, .inl (fun j => nI (L j)))), (b2, .inl (cI, 4, .inl cf)), (h0, .inr (8, [v0, v1, v2, v3, .int ld, .ref p0, v6, v7, v8, v9, v10, v11]))]) (va_runV (As := [.int (nI jk), .int (nI ji), .int (nI jw)]) (rest := []) ⟨hx, hb, hml, hown, hts⟩ (c_part l D cI cB cZ p0 b3 (.int (nI nc)) (.ref b1) (.ref b2) pf jk ji jw (by omega) (by omega) (by omega) _) (cwV 3 hts gP_x_ins8__c_part rfl rfl rfl (by decide +kernel) ⟨Nat.le_of_ble_eq_true rfl, Nat.le_of_ble_eq_true rfl⟩) (gx_preV (ci := 4) (q0 := 0) hK gN.nil hP hD [4, 2] rfl rfl rfl rfl) rfl rfl hl.1 rfl (lv_room (Nat.le_of_ble_eq_true rfl)) dX8_ins_44 ⟨Nat.le_of_ble_eq_true rfl, Nat.le_of_ble_eq_true rfl⟩) hP hD hS hA [4, 2] [0, 1, 3] rfl rfl rfl (by decide) (fun r1 w1 H locs hp hP hD hS => ?_)
            obtain ⟨h9, rfl⟩ := hp
            have h9 := h9.symm
            subst h9
            have hP := hP.sub (ws' := [(h0, .inr (8, [v0, v1, v2, v3, .int ld, .ref p0, v6, v7, v8, v9, v10, v11])), (p0, .inr (4, [.int (nI nc), .ref b1, .ref b2, .ref b3])), (b1, .inl (cI, 3, .inl (fun j => nI (L j)))), (b2, .inl (cI, 4, .inl cf)), (b3, .inl (cI, 192, .inl pf))]) [2, 3, 0, 1, 4] rfl
            have hD := hD.sub (ws' := [(h0, .inr (8, [v0, v1, v2, v3, .int ld, .ref p0, v6, v7, v8, v9, v10, v11])), (p0, .inr (4, [.int (nI nc), .ref b1, .ref b2, .ref b3])), (b1, .inl (cI, 3, .inl (fun j => nI (L j)))), (b2, .inl (cI, 4, .inl cf)), (b3, .inl (cI, 192, .inl pf))]) [2, 3, 0, 1, 4] (by decide) rfl
            exact gx_iret (w' := [(h0, .inr (8, [v0, v1, v2, v3, .int ld, .ref p0, v6, v7, v8, v9, v10, v11])), (p0, .inr (4, [.int (nI nc), .ref b1, .ref b2, .ref b3])), (b1, .inl (cI, 3, .inl (fun j => nI (L j)))), (b2, .inl (cI, 4, .inl cf)), (b3, .inl (cI, 192, .inl pf))]) hx hb hr hlk hK hP hD hS (Nat.le_of_ble_eq_true rfl) (Nat.le_of_ble_eq_true rfl) dX8_ins_47 ⟨(pf ((((jk * 8) + ji) * 8) + jw)), (rIB_y hld hjk hji hjw rfl), rfl, rfl⟩
          · refine lv_iconst (v := (-1)) hx hb dX8_ins_35 (by decide) ?_
            have hP := hP.sub (ws' := [(h0, .inr (8, [v0, v1, v2, v3, .int ld, .ref p0, v6, v7, v8, v9, v10, v11])), (p0, .inr (4, [.int (nI nc), .ref b1, .ref b2, .ref b3])), (b1, .inl (cI, 3, .inl (fun j => nI (L j)))), (b2, .inl (cI, 4, .inl cf)), (b3, .inl (cI, 192, .inl pf))]) [3, 4, 0, 1, 2] rfl
            have hD := hD.sub (ws' := [(h0, .inr (8, [v0, v1, v2, v3, .int ld, .ref p0, v6, v7, v8, v9, v10, v11])), (p0, .inr (4, [.int (nI nc), .ref b1, .ref b2, .ref b3])), (b1, .inl (cI, 3, .inl (fun j => nI (L j)))), (b2, .inl (cI, 4, .inl cf)), (b3, .inl (cI, 192, .inl pf))]) [3, 4, 0, 1, 2] (by decide) rfl
            exact gx_iret (w' := [(h0, .inr (8, [v0, v1, v2, v3, .int ld, .ref p0, v6, v7, v8, v9, v10, v11])), (p0, .inr (4, [.int (nI nc), .ref b1, .ref b2, .ref b3])), (b1, .inl (cI, 3, .inl (fun j => nI (L j)))), (b2, .inl (cI, 4, .inl cf)), (b3, .inl (cI, 192, .inl pf))]) hx hb hr hlk hK hP hD hS (Nat.le_of_ble_eq_true rfl) (Nat.le_of_ble_eq_true rfl) dX8_ins_36 ⟨(-1), (by first | exact rIB_a (hx2_0.resolve_left (fun q => absurd (q.1.symm.trans c_7) (by decide))).2 | exact rIB_d c_7 | exact rIB_e c_7 | exact rIB_b hc (fun k h => Nat.le_trans (hL k h) (by decide)) c_7 | exact rIB_c hc (fun k h => Nat.le_trans (hL k h) (by decide)) hjk c_7), rfl, rfl⟩
def wsP_x_ins9 : List Cond := .code yX9_ins cX9_ins 5 (some .int) :: (([.fieldLink RX9 224 "LitmusHallModel" "isProgram" "Z", .fieldLink RX9 7 "LitmusHallModel" "cores" "[I", .fieldLink RX9 13 "LitmusHallModel" "many" "[I", .fieldLink RX9 16 "LitmusHallModel" "kind" "[I", .fieldLink RX9 19 "LitmusHallModel" "cellOf" "[I", .fieldLink RX9 22 "LitmusHallModel" "regOf" "[I", .fieldLink RX9 25 "LitmusHallModel" "valReg" "[I", .fieldLink RX9 28 "LitmusHallModel" "valInt" "[I", .fieldLink RX9 31 "LitmusHallModel" "val2Reg" "[I", .fieldLink RX9 34 "LitmusHallModel" "val2Int" "[I", .fieldLink RX9 37 "LitmusHallModel" "skip" "[I"] ++ wsX90) ++ [])
set_option maxHeartbeats 4000000 in
set_option maxRecDepth 100000 in
theorem x_ins9 (l : Launch) (D : va_G) (cI cB cZ : ClassId) (h0 : Nat) (a0 : Nat) (a1 : Nat) (a2 : Nat) (a3 : Nat) (a4 : Nat) (a5 : Nat) (a6 : Nat) (a7 : Nat) (a8 : Nat) (a9 : Nat) (v10 : Value) (v12 : Value) (v13 : Value) (v14 : Value) (v15 : Value) (v16 : Value) (v17 : Value) (v18 : Value) (v19 : Value) (v20 : Value) (v21 : Value) (v22 : Value) (v23 : Value) (v24 : Value) (v25 : Value) (v26 : Value) (v27 : Value) (v28 : Value) (v29 : Value) (v30 : Value) (v31 : Value) (v32 : Value) (v33 : Value) (v34 : Value) (v35 : Value) (v36 : Value) (v37 : Value) (v38 : Value) (v39 : Value) (v40 : Value) (v41 : Value) (v42 : Value) (v43 : Value) (v44 : Value) (v45 : Value) (v46 : Value) (v47 : Value) (v48 : Value) (v49 : Value) (v50 : Value) (v51 : Value) (ip : Int32) (C : Nat → Nat) (Mn : Nat → Nat) (kd : Nat → Int32) (cl : Nat → Int32) (rg : Nat → Int32) (uv1 : Nat → Int32) (ui1 : Nat → Int32) (uv2 : Nat → Int32) (ui2 : Nat → Int32) (sk : Nat → Int32) (k : Int32) (i : Int32) (x : Int32) (hC : ∀ j, j < 3 → C j ≤ 3) (hMn : ∀ j, j < 3 → Mn j ≤ 6) : gMi l yX9_ins wsP_x_ins9 ({ frames := 0, cells := 0, slots := 0, locals := 0 }) D cI cB cZ [] [.ref h0, .int k, .int i, .int x] [(h0, .inr (9, [.ref a0, .ref a1, .ref a2, .ref a3, .ref a4, .ref a5, .ref a6, .ref a7, .ref a8, .ref a9, v10, .int ip, v12, v13, v14, v15, v16, v17, v18, v19, v20, v21, v22, v23, v24, v25, v26, v27, v28, v29, v30, v31, v32, v33, v34, v35, v36, v37, v38, v39, v40, v41, v42, v43, v44, v45, v46, v47, v48, v49, v50, v51])), (a0, .inl (cI, 3, .inl (fun j => nI (C j)))), (a1, .inl (cI, 9, .inl (fun j => nI (Mn j)))), (a2, .inl (cI, 108, .inl kd)), (a3, .inl (cI, 108, .inl cl)), (a4, .inl (cI, 108, .inl rg)), (a5, .inl (cI, 108, .inl uv1)), (a6, .inl (cI, 108, .inl ui1)), (a7, .inl (cI, 108, .inl uv2)), (a8, .inl (cI, 108, .inl ui2)), (a9, .inl (cI, 108, .inl sk))] (fun r9 w9 => ∃ z : Int32, (rIB ip (C 0) Mn (fun a b c => rP8 kd cl rg uv1 ui1 uv2 ui2 sk ((12 * a) + b) c) k i x z) ∧ r9 = z ∧ w9 = [(h0, .inr (9, [.ref a0, .ref a1, .ref a2, .ref a3, .ref a4, .ref a5, .ref a6, .ref a7, .ref a8, .ref a9, v10, .int ip, v12, v13, v14, v15, v16, v17, v18, v19, v20, v21, v22, v23, v24, v25, v26, v27, v28, v29, v30, v31, v32, v33, v34, v35, v36, v37, v38, v39, v40, v41, v42, v43, v44, v45, v46, v47, v48, v49, v50, v51])), (a0, .inl (cI, 3, .inl (fun j => nI (C j)))), (a1, .inl (cI, 9, .inl (fun j => nI (Mn j)))), (a2, .inl (cI, 108, .inl kd)), (a3, .inl (cI, 108, .inl cl)), (a4, .inl (cI, 108, .inl rg)), (a5, .inl (cI, 108, .inl uv1)), (a6, .inl (cI, 108, .inl ui1)), (a7, .inl (cI, 108, .inl uv2)), (a8, .inl (cI, 108, .inl ui2)), (a9, .inl (cI, 108, .inl sk))]) := by
  refine gMi.of (cc := cX9_ins) (maxL := 5) (ret := (some .int)) (by decide) rfl (Nat.le_of_ble_eq_true rfl) (fun p e s m below meth c A ls hx hb hr hlk hml hts hown hin hA hP hK hD hS hN hl => ?_)
  have hown : s.vm.findClass RX9 = some m.cls := hown
  have hl : lv_has ls 5 [(0, .ref h0), (1, .int k), (2, .int i), (3, .int x)] := hl
  refine lv_aload_n hx hb dX9_ins_0 rfl (lv_at hl 0 rfl) ?_
  refine va_get (D := D) (ci := 9) (v := .int ip) (C := RX9) (T := TX9) (N := 52) hx hb hts (fun _ h => List.mem_cons_of_mem _ (List.mem_append_left _ (List.mem_append_right _ h))) hown hK hP 0 rfl rfl 11 (by decide) (hts (.fieldLink RX9 224 "LitmusHallModel" "isProgram" "Z") (by decide +kernel)) (fun _ h9 => h9) rfl dX9_ins_1 ?_
  refine lv_if_eq (tgt := 35) hx hb dX9_ins_4 (by decide) (fun c_1 => ?_) (fun c_1 => ?_)
  · refine lv_iconst (v := (-1)) hx hb dX9_ins_35 (by decide) ?_
    exact gx_iret (w' := [(h0, .inr (9, [.ref a0, .ref a1, .ref a2, .ref a3, .ref a4, .ref a5, .ref a6, .ref a7, .ref a8, .ref a9, v10, .int ip, v12, v13, v14, v15, v16, v17, v18, v19, v20, v21, v22, v23, v24, v25, v26, v27, v28, v29, v30, v31, v32, v33, v34, v35, v36, v37, v38, v39, v40, v41, v42, v43, v44, v45, v46, v47, v48, v49, v50, v51])), (a0, .inl (cI, 3, .inl (fun j => nI (C j)))), (a1, .inl (cI, 9, .inl (fun j => nI (Mn j)))), (a2, .inl (cI, 108, .inl kd)), (a3, .inl (cI, 108, .inl cl)), (a4, .inl (cI, 108, .inl rg)), (a5, .inl (cI, 108, .inl uv1)), (a6, .inl (cI, 108, .inl ui1)), (a7, .inl (cI, 108, .inl uv2)), (a8, .inl (cI, 108, .inl ui2)), (a9, .inl (cI, 108, .inl sk))]) hx hb hr hlk hK hP hD hS (Nat.le_of_ble_eq_true rfl) (Nat.le_of_ble_eq_true rfl) dX9_ins_36 ⟨(-1), (by first | exact rIB_0 c_1 | exact rIB_k (hC 0 (by decide)) c_1 | exact rIB_g (hC 0 (by decide)) c_1 | exact rIB_b (hC 0 (by decide)) (fun k h => Nat.le_trans (hMn k h) (by decide)) c_1 | exact rIB_c (hC 0 (by decide)) (fun k h => Nat.le_trans (hMn k h) (by decide)) hjk (Int32.not_lt.mp c_1)), rfl, rfl⟩
  · refine lv_iload_n hx hb dX9_ins_7 rfl (lv_at hl 1 rfl) ?_
    refine lv_if_lt (tgt := 35) hx hb dX9_ins_8 (by decide) (fun c_2 => ?_) (fun c_2 => ?_)
    · refine lv_iconst (v := (-1)) hx hb dX9_ins_35 (by decide) ?_
      exact gx_iret (w' := [(h0, .inr (9, [.ref a0, .ref a1, .ref a2, .ref a3, .ref a4, .ref a5, .ref a6, .ref a7, .ref a8, .ref a9, v10, .int ip, v12, v13, v14, v15, v16, v17, v18, v19, v20, v21, v22, v23, v24, v25, v26, v27, v28, v29, v30, v31, v32, v33, v34, v35, v36, v37, v38, v39, v40, v41, v42, v43, v44, v45, v46, v47, v48, v49, v50, v51])), (a0, .inl (cI, 3, .inl (fun j => nI (C j)))), (a1, .inl (cI, 9, .inl (fun j => nI (Mn j)))), (a2, .inl (cI, 108, .inl kd)), (a3, .inl (cI, 108, .inl cl)), (a4, .inl (cI, 108, .inl rg)), (a5, .inl (cI, 108, .inl uv1)), (a6, .inl (cI, 108, .inl ui1)), (a7, .inl (cI, 108, .inl uv2)), (a8, .inl (cI, 108, .inl ui2)), (a9, .inl (cI, 108, .inl sk))]) hx hb hr hlk hK hP hD hS (Nat.le_of_ble_eq_true rfl) (Nat.le_of_ble_eq_true rfl) dX9_ins_36 ⟨(-1), (by first | exact rIB_0 c_2 | exact rIB_k (hC 0 (by decide)) c_2 | exact rIB_g (hC 0 (by decide)) c_2 | exact rIB_b (hC 0 (by decide)) (fun k h => Nat.le_trans (hMn k h) (by decide)) c_2 | exact rIB_c (hC 0 (by decide)) (fun k h => Nat.le_trans (hMn k h) (by decide)) hjk (Int32.not_lt.mp c_2)), rfl, rfl⟩
    · refine lv_iload_n hx hb dX9_ins_11 rfl (lv_at hl 1 rfl) ?_
      refine lv_aload_n hx hb dX9_ins_12 rfl (lv_at hl 0 rfl) ?_
      refine va_get (D := D) (ci := 9) (v := .ref a0) (C := RX9) (T := TX9) (N := 52) hx hb hts (fun _ h => List.mem_cons_of_mem _ (List.mem_append_left _ (List.mem_append_right _ h))) hown hK hP 0 rfl rfl 0 (by decide) (hts (.fieldLink RX9 7 "LitmusHallModel" "cores" "[I") (by decide +kernel)) (fun _ h9 => h9) rfl dX9_ins_13 ?_
      refine lv_iconst (v := 0) hx hb dX9_ins_16 (by decide) ?_
      refine gy_ild (i := 0) hx hb hK hP 1 rfl (by omega) (by omega) dX9_ins_17 ?_
      refine gx_top (y := nI (C 0)) rfl ?_
      have hC0 := hC 0 (by omega)
      refine lv_icmp_ge (tgt := 35) hx hb dX9_ins_18 (by decide) (fun c_3 => ?_) (fun c_3 => ?_)
      · refine lv_iconst (v := (-1)) hx hb dX9_ins_35 (by decide) ?_
        exact gx_iret (w' := [(h0, .inr (9, [.ref a0, .ref a1, .ref a2, .ref a3, .ref a4, .ref a5, .ref a6, .ref a7, .ref a8, .ref a9, v10, .int ip, v12, v13, v14, v15, v16, v17, v18, v19, v20, v21, v22, v23, v24, v25, v26, v27, v28, v29, v30, v31, v32, v33, v34, v35, v36, v37, v38, v39, v40, v41, v42, v43, v44, v45, v46, v47, v48, v49, v50, v51])), (a0, .inl (cI, 3, .inl (fun j => nI (C j)))), (a1, .inl (cI, 9, .inl (fun j => nI (Mn j)))), (a2, .inl (cI, 108, .inl kd)), (a3, .inl (cI, 108, .inl cl)), (a4, .inl (cI, 108, .inl rg)), (a5, .inl (cI, 108, .inl uv1)), (a6, .inl (cI, 108, .inl ui1)), (a7, .inl (cI, 108, .inl uv2)), (a8, .inl (cI, 108, .inl ui2)), (a9, .inl (cI, 108, .inl sk))]) hx hb hr hlk hK hP hD hS (Nat.le_of_ble_eq_true rfl) (Nat.le_of_ble_eq_true rfl) dX9_ins_36 ⟨(-1), (by first | exact rIB_0 c_3 | exact rIB_k (hC 0 (by decide)) c_3 | exact rIB_g (hC 0 (by decide)) c_3 | exact rIB_b (hC 0 (by decide)) (fun k h => Nat.le_trans (hMn k h) (by decide)) c_3 | exact rIB_c (hC 0 (by decide)) (fun k h => Nat.le_trans (hMn k h) (by decide)) hjk (Int32.not_lt.mp c_3)), rfl, rfl⟩
      · obtain ⟨jk, hjk, rfl⟩ := gy_lt2 (n := C 0) (by omega) c_2 c_3
        have hip9 := c_1
        have hl : lv_has ls 5 [(0, .ref h0), (1, .int (nI jk)), (2, .int i), (3, .int x)] := hl
        refine lv_iload_n hx hb dX9_ins_21 rfl (lv_at hl 2 rfl) ?_
        refine lv_if_lt (tgt := 35) hx hb dX9_ins_22 (by decide) (fun c_4 => ?_) (fun c_4 => ?_)
        · refine lv_iconst (v := (-1)) hx hb dX9_ins_35 (by decide) ?_
          exact gx_iret (w' := [(h0, .inr (9, [.ref a0, .ref a1, .ref a2, .ref a3, .ref a4, .ref a5, .ref a6, .ref a7, .ref a8, .ref a9, v10, .int ip, v12, v13, v14, v15, v16, v17, v18, v19, v20, v21, v22, v23, v24, v25, v26, v27, v28, v29, v30, v31, v32, v33, v34, v35, v36, v37, v38, v39, v40, v41, v42, v43, v44, v45, v46, v47, v48, v49, v50, v51])), (a0, .inl (cI, 3, .inl (fun j => nI (C j)))), (a1, .inl (cI, 9, .inl (fun j => nI (Mn j)))), (a2, .inl (cI, 108, .inl kd)), (a3, .inl (cI, 108, .inl cl)), (a4, .inl (cI, 108, .inl rg)), (a5, .inl (cI, 108, .inl uv1)), (a6, .inl (cI, 108, .inl ui1)), (a7, .inl (cI, 108, .inl uv2)), (a8, .inl (cI, 108, .inl ui2)), (a9, .inl (cI, 108, .inl sk))]) hx hb hr hlk hK hP hD hS (Nat.le_of_ble_eq_true rfl) (Nat.le_of_ble_eq_true rfl) dX9_ins_36 ⟨(-1), (by first | exact rIB_0 c_4 | exact rIB_k (hC 0 (by decide)) c_4 | exact rIB_g (hC 0 (by decide)) c_4 | exact rIB_b (hC 0 (by decide)) (fun k h => Nat.le_trans (hMn k h) (by decide)) c_4 | exact rIB_c (hC 0 (by decide)) (fun k h => Nat.le_trans (hMn k h) (by decide)) hjk (Int32.not_lt.mp c_4)), rfl, rfl⟩
        · refine lv_iload_n hx hb dX9_ins_25 rfl (lv_at hl 2 rfl) ?_
          refine lv_aload_n hx hb dX9_ins_26 rfl (lv_at hl 0 rfl) ?_
          refine va_get (D := D) (ci := 9) (v := .ref a1) (C := RX9) (T := TX9) (N := 52) hx hb hts (fun _ h => List.mem_cons_of_mem _ (List.mem_append_left _ (List.mem_append_right _ h))) hown hK hP 0 rfl rfl 1 (by decide) (hts (.fieldLink RX9 13 "LitmusHallModel" "many" "[I") (by decide +kernel)) (fun _ h9 => h9) rfl dX9_ins_27 ?_
          refine lv_iload_n hx hb dX9_ins_30 rfl (lv_at hl 1 rfl) ?_
          refine gy_ild (i := jk) hx hb hK hP 2 rfl (by omega) (by omega) dX9_ins_31 ?_
          refine gx_top (y := nI (Mn jk)) rfl ?_
          have hM0 := hMn jk (by omega)
          refine lv_icmp_lt (tgt := 37) hx hb dX9_ins_32 (by decide) (fun c_5 => ?_) (fun c_5 => ?_)
          · obtain ⟨ji, hji, rfl⟩ := gy_inc (c := Mn jk) (by omega) c_4 c_5
            have hl : lv_has ls 5 [(0, .ref h0), (1, .int (nI jk)), (2, .int (nI ji)), (3, .int x)] := hl
            refine lv_bipush (v := 12) hx hb dX9_ins_37 (by decide) ?_
            refine lv_iload_n hx hb dX9_ins_39 rfl (lv_at hl 1 rfl) ?_
            refine lv_imul hx hb dX9_ins_40 ?_
            refine gx_top (y := nI (12 * jk)) (pk_mul 12 jk) ?_
            refine lv_iload_n hx hb dX9_ins_41 rfl (lv_at hl 2 rfl) ?_
            refine lv_iadd hx hb dX9_ins_42 ?_
            refine gx_top (y := nI ((12 * jk) + ji)) (nI_add (12 * jk) ji) ?_
            refine lv_istore (lv' := [(4, .int (nI ((12 * jk) + ji))), (0, .ref h0), (1, .int (nI jk)), (2, .int (nI ji)), (3, .int x)]) hx hb dX9_ins_43 hl (by decide) rfl (fun ls hl => ?_)
            refine lv_iload_n hx hb dX9_ins_45 rfl (lv_at hl 4 rfl) ?_
            by_cases hneg : x < 0
            · refine lv_tableOut (tgt := 156) hx hb dX9_ins_46 (Or.inl (by simpa using Int32.lt_iff_toInt_lt.mp hneg)) (by decide) ?_
              refine lv_iconst (v := (-1)) hx hb dX9_ins_156 (by decide) ?_
              exact gx_iret (w' := [(h0, .inr (9, [.ref a0, .ref a1, .ref a2, .ref a3, .ref a4, .ref a5, .ref a6, .ref a7, .ref a8, .ref a9, v10, .int ip, v12, v13, v14, v15, v16, v17, v18, v19, v20, v21, v22, v23, v24, v25, v26, v27, v28, v29, v30, v31, v32, v33, v34, v35, v36, v37, v38, v39, v40, v41, v42, v43, v44, v45, v46, v47, v48, v49, v50, v51])), (a0, .inl (cI, 3, .inl (fun j => nI (C j)))), (a1, .inl (cI, 9, .inl (fun j => nI (Mn j)))), (a2, .inl (cI, 108, .inl kd)), (a3, .inl (cI, 108, .inl cl)), (a4, .inl (cI, 108, .inl rg)), (a5, .inl (cI, 108, .inl uv1)), (a6, .inl (cI, 108, .inl ui1)), (a7, .inl (cI, 108, .inl uv2)), (a8, .inl (cI, 108, .inl ui2)), (a9, .inl (cI, 108, .inl sk))]) hx hb hr hlk hK hP hD hS (Nat.le_of_ble_eq_true rfl) (Nat.le_of_ble_eq_true rfl) dX9_ins_157 ⟨(-1), (by first | exact rIB_d hneg | exact rIB_f htsw hjx), rfl, rfl⟩
            · obtain ⟨jx, hjx, rfl⟩ := nI_of hneg
              rcases (show jx = 0 ∨ jx = 1 ∨ jx = 2 ∨ jx = 3 ∨ jx = 4 ∨ jx = 5 ∨ jx = 6 ∨ jx = 7 ∨ 7 < jx by omega) with rfl | rfl | rfl | rfl | rfl | rfl | rfl | rfl | htsw
              · refine lv_tableIn (off := 46) (tgt := 92) hx hb dX9_ins_46 (by decide +kernel) (by decide +kernel) (by decide +kernel) (by decide) ?_
                have hl : lv_has ls 5 [(4, .int (nI ((12 * jk) + ji))), (0, .ref h0), (1, .int (nI jk)), (2, .int (nI ji)), (3, .int 0)] := hl
                refine lv_aload_n hx hb dX9_ins_92 rfl (lv_at hl 1 rfl) ?_
                refine va_get (D := D) (ci := 9) (v := .ref a2) (C := RX9) (T := TX9) (N := 52) hx hb hts (fun _ h => List.mem_cons_of_mem _ (List.mem_append_left _ (List.mem_append_right _ h))) hown hK hP 0 rfl rfl 2 (by decide) (hts (.fieldLink RX9 16 "LitmusHallModel" "kind" "[I") (by decide +kernel)) (fun _ h9 => h9) rfl dX9_ins_93 ?_
                refine lv_iload hx hb dX9_ins_96 (lv_at hl 0 rfl) ?_
                refine gy_ild (i := ((12 * jk) + ji)) hx hb hK hP 3 rfl (by omega) (by omega) dX9_ins_98 ?_
                exact gx_iret (w' := [(h0, .inr (9, [.ref a0, .ref a1, .ref a2, .ref a3, .ref a4, .ref a5, .ref a6, .ref a7, .ref a8, .ref a9, v10, .int ip, v12, v13, v14, v15, v16, v17, v18, v19, v20, v21, v22, v23, v24, v25, v26, v27, v28, v29, v30, v31, v32, v33, v34, v35, v36, v37, v38, v39, v40, v41, v42, v43, v44, v45, v46, v47, v48, v49, v50, v51])), (a0, .inl (cI, 3, .inl (fun j => nI (C j)))), (a1, .inl (cI, 9, .inl (fun j => nI (Mn j)))), (a2, .inl (cI, 108, .inl kd)), (a3, .inl (cI, 108, .inl cl)), (a4, .inl (cI, 108, .inl rg)), (a5, .inl (cI, 108, .inl uv1)), (a6, .inl (cI, 108, .inl ui1)), (a7, .inl (cI, 108, .inl uv2)), (a8, .inl (cI, 108, .inl ui2)), (a9, .inl (cI, 108, .inl sk))]) hx hb hr hlk hK hP hD hS (Nat.le_of_ble_eq_true rfl) (Nat.le_of_ble_eq_true rfl) dX9_ins_99 ⟨(kd ((12 * jk) + ji)), (rIB_y (jx := 0) hip9 hjk hji (by decide) rfl), rfl, rfl⟩
              · refine lv_tableIn (off := 54) (tgt := 100) hx hb dX9_ins_46 (by decide +kernel) (by decide +kernel) (by decide +kernel) (by decide) ?_
                have hl : lv_has ls 5 [(4, .int (nI ((12 * jk) + ji))), (0, .ref h0), (1, .int (nI jk)), (2, .int (nI ji)), (3, .int 1)] := hl
                refine lv_aload_n hx hb dX9_ins_100 rfl (lv_at hl 1 rfl) ?_
                refine va_get (D := D) (ci := 9) (v := .ref a3) (C := RX9) (T := TX9) (N := 52) hx hb hts (fun _ h => List.mem_cons_of_mem _ (List.mem_append_left _ (List.mem_append_right _ h))) hown hK hP 0 rfl rfl 3 (by decide) (hts (.fieldLink RX9 19 "LitmusHallModel" "cellOf" "[I") (by decide +kernel)) (fun _ h9 => h9) rfl dX9_ins_101 ?_
                refine lv_iload hx hb dX9_ins_104 (lv_at hl 0 rfl) ?_
                refine gy_ild (i := ((12 * jk) + ji)) hx hb hK hP 4 rfl (by omega) (by omega) dX9_ins_106 ?_
                exact gx_iret (w' := [(h0, .inr (9, [.ref a0, .ref a1, .ref a2, .ref a3, .ref a4, .ref a5, .ref a6, .ref a7, .ref a8, .ref a9, v10, .int ip, v12, v13, v14, v15, v16, v17, v18, v19, v20, v21, v22, v23, v24, v25, v26, v27, v28, v29, v30, v31, v32, v33, v34, v35, v36, v37, v38, v39, v40, v41, v42, v43, v44, v45, v46, v47, v48, v49, v50, v51])), (a0, .inl (cI, 3, .inl (fun j => nI (C j)))), (a1, .inl (cI, 9, .inl (fun j => nI (Mn j)))), (a2, .inl (cI, 108, .inl kd)), (a3, .inl (cI, 108, .inl cl)), (a4, .inl (cI, 108, .inl rg)), (a5, .inl (cI, 108, .inl uv1)), (a6, .inl (cI, 108, .inl ui1)), (a7, .inl (cI, 108, .inl uv2)), (a8, .inl (cI, 108, .inl ui2)), (a9, .inl (cI, 108, .inl sk))]) hx hb hr hlk hK hP hD hS (Nat.le_of_ble_eq_true rfl) (Nat.le_of_ble_eq_true rfl) dX9_ins_107 ⟨(cl ((12 * jk) + ji)), (rIB_y (jx := 1) hip9 hjk hji (by decide) rfl), rfl, rfl⟩
              · refine lv_tableIn (off := 62) (tgt := 108) hx hb dX9_ins_46 (by decide +kernel) (by decide +kernel) (by decide +kernel) (by decide) ?_
                have hl : lv_has ls 5 [(4, .int (nI ((12 * jk) + ji))), (0, .ref h0), (1, .int (nI jk)), (2, .int (nI ji)), (3, .int 2)] := hl
                refine lv_aload_n hx hb dX9_ins_108 rfl (lv_at hl 1 rfl) ?_
                refine va_get (D := D) (ci := 9) (v := .ref a4) (C := RX9) (T := TX9) (N := 52) hx hb hts (fun _ h => List.mem_cons_of_mem _ (List.mem_append_left _ (List.mem_append_right _ h))) hown hK hP 0 rfl rfl 4 (by decide) (hts (.fieldLink RX9 22 "LitmusHallModel" "regOf" "[I") (by decide +kernel)) (fun _ h9 => h9) rfl dX9_ins_109 ?_
                refine lv_iload hx hb dX9_ins_112 (lv_at hl 0 rfl) ?_
                refine gy_ild (i := ((12 * jk) + ji)) hx hb hK hP 5 rfl (by omega) (by omega) dX9_ins_114 ?_
                exact gx_iret (w' := [(h0, .inr (9, [.ref a0, .ref a1, .ref a2, .ref a3, .ref a4, .ref a5, .ref a6, .ref a7, .ref a8, .ref a9, v10, .int ip, v12, v13, v14, v15, v16, v17, v18, v19, v20, v21, v22, v23, v24, v25, v26, v27, v28, v29, v30, v31, v32, v33, v34, v35, v36, v37, v38, v39, v40, v41, v42, v43, v44, v45, v46, v47, v48, v49, v50, v51])), (a0, .inl (cI, 3, .inl (fun j => nI (C j)))), (a1, .inl (cI, 9, .inl (fun j => nI (Mn j)))), (a2, .inl (cI, 108, .inl kd)), (a3, .inl (cI, 108, .inl cl)), (a4, .inl (cI, 108, .inl rg)), (a5, .inl (cI, 108, .inl uv1)), (a6, .inl (cI, 108, .inl ui1)), (a7, .inl (cI, 108, .inl uv2)), (a8, .inl (cI, 108, .inl ui2)), (a9, .inl (cI, 108, .inl sk))]) hx hb hr hlk hK hP hD hS (Nat.le_of_ble_eq_true rfl) (Nat.le_of_ble_eq_true rfl) dX9_ins_115 ⟨(rg ((12 * jk) + ji)), (rIB_y (jx := 2) hip9 hjk hji (by decide) rfl), rfl, rfl⟩
              · refine lv_tableIn (off := 70) (tgt := 116) hx hb dX9_ins_46 (by decide +kernel) (by decide +kernel) (by decide +kernel) (by decide) ?_
                have hl : lv_has ls 5 [(4, .int (nI ((12 * jk) + ji))), (0, .ref h0), (1, .int (nI jk)), (2, .int (nI ji)), (3, .int 3)] := hl
                refine lv_aload_n hx hb dX9_ins_116 rfl (lv_at hl 1 rfl) ?_
                refine va_get (D := D) (ci := 9) (v := .ref a5) (C := RX9) (T := TX9) (N := 52) hx hb hts (fun _ h => List.mem_cons_of_mem _ (List.mem_append_left _ (List.mem_append_right _ h))) hown hK hP 0 rfl rfl 5 (by decide) (hts (.fieldLink RX9 25 "LitmusHallModel" "valReg" "[I") (by decide +kernel)) (fun _ h9 => h9) rfl dX9_ins_117 ?_
                refine lv_iload hx hb dX9_ins_120 (lv_at hl 0 rfl) ?_
                refine gy_ild (i := ((12 * jk) + ji)) hx hb hK hP 6 rfl (by omega) (by omega) dX9_ins_122 ?_
                exact gx_iret (w' := [(h0, .inr (9, [.ref a0, .ref a1, .ref a2, .ref a3, .ref a4, .ref a5, .ref a6, .ref a7, .ref a8, .ref a9, v10, .int ip, v12, v13, v14, v15, v16, v17, v18, v19, v20, v21, v22, v23, v24, v25, v26, v27, v28, v29, v30, v31, v32, v33, v34, v35, v36, v37, v38, v39, v40, v41, v42, v43, v44, v45, v46, v47, v48, v49, v50, v51])), (a0, .inl (cI, 3, .inl (fun j => nI (C j)))), (a1, .inl (cI, 9, .inl (fun j => nI (Mn j)))), (a2, .inl (cI, 108, .inl kd)), (a3, .inl (cI, 108, .inl cl)), (a4, .inl (cI, 108, .inl rg)), (a5, .inl (cI, 108, .inl uv1)), (a6, .inl (cI, 108, .inl ui1)), (a7, .inl (cI, 108, .inl uv2)), (a8, .inl (cI, 108, .inl ui2)), (a9, .inl (cI, 108, .inl sk))]) hx hb hr hlk hK hP hD hS (Nat.le_of_ble_eq_true rfl) (Nat.le_of_ble_eq_true rfl) dX9_ins_123 ⟨(uv1 ((12 * jk) + ji)), (rIB_y (jx := 3) hip9 hjk hji (by decide) rfl), rfl, rfl⟩
              · refine lv_tableIn (off := 78) (tgt := 124) hx hb dX9_ins_46 (by decide +kernel) (by decide +kernel) (by decide +kernel) (by decide) ?_
                have hl : lv_has ls 5 [(4, .int (nI ((12 * jk) + ji))), (0, .ref h0), (1, .int (nI jk)), (2, .int (nI ji)), (3, .int 4)] := hl
                refine lv_aload_n hx hb dX9_ins_124 rfl (lv_at hl 1 rfl) ?_
                refine va_get (D := D) (ci := 9) (v := .ref a6) (C := RX9) (T := TX9) (N := 52) hx hb hts (fun _ h => List.mem_cons_of_mem _ (List.mem_append_left _ (List.mem_append_right _ h))) hown hK hP 0 rfl rfl 6 (by decide) (hts (.fieldLink RX9 28 "LitmusHallModel" "valInt" "[I") (by decide +kernel)) (fun _ h9 => h9) rfl dX9_ins_125 ?_
                refine lv_iload hx hb dX9_ins_128 (lv_at hl 0 rfl) ?_
                refine gy_ild (i := ((12 * jk) + ji)) hx hb hK hP 7 rfl (by omega) (by omega) dX9_ins_130 ?_
                exact gx_iret (w' := [(h0, .inr (9, [.ref a0, .ref a1, .ref a2, .ref a3, .ref a4, .ref a5, .ref a6, .ref a7, .ref a8, .ref a9, v10, .int ip, v12, v13, v14, v15, v16, v17, v18, v19, v20, v21, v22, v23, v24, v25, v26, v27, v28, v29, v30, v31, v32, v33, v34, v35, v36, v37, v38, v39, v40, v41, v42, v43, v44, v45, v46, v47, v48, v49, v50, v51])), (a0, .inl (cI, 3, .inl (fun j => nI (C j)))), (a1, .inl (cI, 9, .inl (fun j => nI (Mn j)))), (a2, .inl (cI, 108, .inl kd)), (a3, .inl (cI, 108, .inl cl)), (a4, .inl (cI, 108, .inl rg)), (a5, .inl (cI, 108, .inl uv1)), (a6, .inl (cI, 108, .inl ui1)), (a7, .inl (cI, 108, .inl uv2)), (a8, .inl (cI, 108, .inl ui2)), (a9, .inl (cI, 108, .inl sk))]) hx hb hr hlk hK hP hD hS (Nat.le_of_ble_eq_true rfl) (Nat.le_of_ble_eq_true rfl) dX9_ins_131 ⟨(ui1 ((12 * jk) + ji)), (rIB_y (jx := 4) hip9 hjk hji (by decide) rfl), rfl, rfl⟩
              · refine lv_tableIn (off := 86) (tgt := 132) hx hb dX9_ins_46 (by decide +kernel) (by decide +kernel) (by decide +kernel) (by decide) ?_
                have hl : lv_has ls 5 [(4, .int (nI ((12 * jk) + ji))), (0, .ref h0), (1, .int (nI jk)), (2, .int (nI ji)), (3, .int 5)] := hl
                refine lv_aload_n hx hb dX9_ins_132 rfl (lv_at hl 1 rfl) ?_
                refine va_get (D := D) (ci := 9) (v := .ref a7) (C := RX9) (T := TX9) (N := 52) hx hb hts (fun _ h => List.mem_cons_of_mem _ (List.mem_append_left _ (List.mem_append_right _ h))) hown hK hP 0 rfl rfl 7 (by decide) (hts (.fieldLink RX9 31 "LitmusHallModel" "val2Reg" "[I") (by decide +kernel)) (fun _ h9 => h9) rfl dX9_ins_133 ?_
                refine lv_iload hx hb dX9_ins_136 (lv_at hl 0 rfl) ?_
                refine gy_ild (i := ((12 * jk) + ji)) hx hb hK hP 8 rfl (by omega) (by omega) dX9_ins_138 ?_
                exact gx_iret (w' := [(h0, .inr (9, [.ref a0, .ref a1, .ref a2, .ref a3, .ref a4, .ref a5, .ref a6, .ref a7, .ref a8, .ref a9, v10, .int ip, v12, v13, v14, v15, v16, v17, v18, v19, v20, v21, v22, v23, v24, v25, v26, v27, v28, v29, v30, v31, v32, v33, v34, v35, v36, v37, v38, v39, v40, v41, v42, v43, v44, v45, v46, v47, v48, v49, v50, v51])), (a0, .inl (cI, 3, .inl (fun j => nI (C j)))), (a1, .inl (cI, 9, .inl (fun j => nI (Mn j)))), (a2, .inl (cI, 108, .inl kd)), (a3, .inl (cI, 108, .inl cl)), (a4, .inl (cI, 108, .inl rg)), (a5, .inl (cI, 108, .inl uv1)), (a6, .inl (cI, 108, .inl ui1)), (a7, .inl (cI, 108, .inl uv2)), (a8, .inl (cI, 108, .inl ui2)), (a9, .inl (cI, 108, .inl sk))]) hx hb hr hlk hK hP hD hS (Nat.le_of_ble_eq_true rfl) (Nat.le_of_ble_eq_true rfl) dX9_ins_139 ⟨(uv2 ((12 * jk) + ji)), (rIB_y (jx := 5) hip9 hjk hji (by decide) rfl), rfl, rfl⟩
              · refine lv_tableIn (off := 94) (tgt := 140) hx hb dX9_ins_46 (by decide +kernel) (by decide +kernel) (by decide +kernel) (by decide) ?_
                have hl : lv_has ls 5 [(4, .int (nI ((12 * jk) + ji))), (0, .ref h0), (1, .int (nI jk)), (2, .int (nI ji)), (3, .int 6)] := hl
                refine lv_aload_n hx hb dX9_ins_140 rfl (lv_at hl 1 rfl) ?_
                refine va_get (D := D) (ci := 9) (v := .ref a8) (C := RX9) (T := TX9) (N := 52) hx hb hts (fun _ h => List.mem_cons_of_mem _ (List.mem_append_left _ (List.mem_append_right _ h))) hown hK hP 0 rfl rfl 8 (by decide) (hts (.fieldLink RX9 34 "LitmusHallModel" "val2Int" "[I") (by decide +kernel)) (fun _ h9 => h9) rfl dX9_ins_141 ?_
                refine lv_iload hx hb dX9_ins_144 (lv_at hl 0 rfl) ?_
                refine gy_ild (i := ((12 * jk) + ji)) hx hb hK hP 9 rfl (by omega) (by omega) dX9_ins_146 ?_
                exact gx_iret (w' := [(h0, .inr (9, [.ref a0, .ref a1, .ref a2, .ref a3, .ref a4, .ref a5, .ref a6, .ref a7, .ref a8, .ref a9, v10, .int ip, v12, v13, v14, v15, v16, v17, v18, v19, v20, v21, v22, v23, v24, v25, v26, v27, v28, v29, v30, v31, v32, v33, v34, v35, v36, v37, v38, v39, v40, v41, v42, v43, v44, v45, v46, v47, v48, v49, v50, v51])), (a0, .inl (cI, 3, .inl (fun j => nI (C j)))), (a1, .inl (cI, 9, .inl (fun j => nI (Mn j)))), (a2, .inl (cI, 108, .inl kd)), (a3, .inl (cI, 108, .inl cl)), (a4, .inl (cI, 108, .inl rg)), (a5, .inl (cI, 108, .inl uv1)), (a6, .inl (cI, 108, .inl ui1)), (a7, .inl (cI, 108, .inl uv2)), (a8, .inl (cI, 108, .inl ui2)), (a9, .inl (cI, 108, .inl sk))]) hx hb hr hlk hK hP hD hS (Nat.le_of_ble_eq_true rfl) (Nat.le_of_ble_eq_true rfl) dX9_ins_147 ⟨(ui2 ((12 * jk) + ji)), (rIB_y (jx := 6) hip9 hjk hji (by decide) rfl), rfl, rfl⟩
              · refine lv_tableIn (off := 102) (tgt := 148) hx hb dX9_ins_46 (by decide +kernel) (by decide +kernel) (by decide +kernel) (by decide) ?_
                have hl : lv_has ls 5 [(4, .int (nI ((12 * jk) + ji))), (0, .ref h0), (1, .int (nI jk)), (2, .int (nI ji)), (3, .int 7)] := hl
                refine lv_aload_n hx hb dX9_ins_148 rfl (lv_at hl 1 rfl) ?_
                refine va_get (D := D) (ci := 9) (v := .ref a9) (C := RX9) (T := TX9) (N := 52) hx hb hts (fun _ h => List.mem_cons_of_mem _ (List.mem_append_left _ (List.mem_append_right _ h))) hown hK hP 0 rfl rfl 9 (by decide) (hts (.fieldLink RX9 37 "LitmusHallModel" "skip" "[I") (by decide +kernel)) (fun _ h9 => h9) rfl dX9_ins_149 ?_
                refine lv_iload hx hb dX9_ins_152 (lv_at hl 0 rfl) ?_
                refine gy_ild (i := ((12 * jk) + ji)) hx hb hK hP 10 rfl (by omega) (by omega) dX9_ins_154 ?_
                exact gx_iret (w' := [(h0, .inr (9, [.ref a0, .ref a1, .ref a2, .ref a3, .ref a4, .ref a5, .ref a6, .ref a7, .ref a8, .ref a9, v10, .int ip, v12, v13, v14, v15, v16, v17, v18, v19, v20, v21, v22, v23, v24, v25, v26, v27, v28, v29, v30, v31, v32, v33, v34, v35, v36, v37, v38, v39, v40, v41, v42, v43, v44, v45, v46, v47, v48, v49, v50, v51])), (a0, .inl (cI, 3, .inl (fun j => nI (C j)))), (a1, .inl (cI, 9, .inl (fun j => nI (Mn j)))), (a2, .inl (cI, 108, .inl kd)), (a3, .inl (cI, 108, .inl cl)), (a4, .inl (cI, 108, .inl rg)), (a5, .inl (cI, 108, .inl uv1)), (a6, .inl (cI, 108, .inl ui1)), (a7, .inl (cI, 108, .inl uv2)), (a8, .inl (cI, 108, .inl ui2)), (a9, .inl (cI, 108, .inl sk))]) hx hb hr hlk hK hP hD hS (Nat.le_of_ble_eq_true rfl) (Nat.le_of_ble_eq_true rfl) dX9_ins_155 ⟨(sk ((12 * jk) + ji)), (rIB_y (jx := 7) hip9 hjk hji (by decide) rfl), rfl, rfl⟩
              · refine lv_tableOut (tgt := 156) hx hb dX9_ins_46 (Or.inr (by rw [nI_toInt (by omega)]; omega)) (by decide) ?_
                refine lv_iconst (v := (-1)) hx hb dX9_ins_156 (by decide) ?_
                exact gx_iret (w' := [(h0, .inr (9, [.ref a0, .ref a1, .ref a2, .ref a3, .ref a4, .ref a5, .ref a6, .ref a7, .ref a8, .ref a9, v10, .int ip, v12, v13, v14, v15, v16, v17, v18, v19, v20, v21, v22, v23, v24, v25, v26, v27, v28, v29, v30, v31, v32, v33, v34, v35, v36, v37, v38, v39, v40, v41, v42, v43, v44, v45, v46, v47, v48, v49, v50, v51])), (a0, .inl (cI, 3, .inl (fun j => nI (C j)))), (a1, .inl (cI, 9, .inl (fun j => nI (Mn j)))), (a2, .inl (cI, 108, .inl kd)), (a3, .inl (cI, 108, .inl cl)), (a4, .inl (cI, 108, .inl rg)), (a5, .inl (cI, 108, .inl uv1)), (a6, .inl (cI, 108, .inl ui1)), (a7, .inl (cI, 108, .inl uv2)), (a8, .inl (cI, 108, .inl ui2)), (a9, .inl (cI, 108, .inl sk))]) hx hb hr hlk hK hP hD hS (Nat.le_of_ble_eq_true rfl) (Nat.le_of_ble_eq_true rfl) dX9_ins_157 ⟨(-1), (by first | exact rIB_d hneg | exact rIB_f htsw hjx), rfl, rfl⟩
          · refine lv_iconst (v := (-1)) hx hb dX9_ins_35 (by decide) ?_
            exact gx_iret (w' := [(h0, .inr (9, [.ref a0, .ref a1, .ref a2, .ref a3, .ref a4, .ref a5, .ref a6, .ref a7, .ref a8, .ref a9, v10, .int ip, v12, v13, v14, v15, v16, v17, v18, v19, v20, v21, v22, v23, v24, v25, v26, v27, v28, v29, v30, v31, v32, v33, v34, v35, v36, v37, v38, v39, v40, v41, v42, v43, v44, v45, v46, v47, v48, v49, v50, v51])), (a0, .inl (cI, 3, .inl (fun j => nI (C j)))), (a1, .inl (cI, 9, .inl (fun j => nI (Mn j)))), (a2, .inl (cI, 108, .inl kd)), (a3, .inl (cI, 108, .inl cl)), (a4, .inl (cI, 108, .inl rg)), (a5, .inl (cI, 108, .inl uv1)), (a6, .inl (cI, 108, .inl ui1)), (a7, .inl (cI, 108, .inl uv2)), (a8, .inl (cI, 108, .inl ui2)), (a9, .inl (cI, 108, .inl sk))]) hx hb hr hlk hK hP hD hS (Nat.le_of_ble_eq_true rfl) (Nat.le_of_ble_eq_true rfl) dX9_ins_36 ⟨(-1), (by first | exact rIB_0 c_5 | exact rIB_k (hC 0 (by decide)) c_5 | exact rIB_g (hC 0 (by decide)) c_5 | exact rIB_b (hC 0 (by decide)) (fun k h => Nat.le_trans (hMn k h) (by decide)) c_5 | exact rIB_c (hC 0 (by decide)) (fun k h => Nat.le_trans (hMn k h) (by decide)) hjk (Int32.not_lt.mp c_5)), rfl, rfl⟩
