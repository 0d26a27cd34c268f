
def gF1 (f : Nat → Int32) (k : Nat) : Nat → Int32 := upd f (13 + k) ((f (13 + k)) + 1)
def gMq (f pf : Nat → Int32) (k n : Nat) (mode : Int32) (q r x y : Nat) : Nat → Int32 := match q with
  | 0 => upd (gF1 f k) ((k * 3) + r) (gSn (gF1 f k) k x (gSz (gF1 f k (13 + k))))
  | 1 => gPt (gF1 f k) k x (gVl pf (gF1 f k) (n + 3) k) mode
  | 2 => upd (gF1 f k) ((k * 3) + r) (gVl pf (gF1 f k) (n + 3) k)
  | 3 => upd (gF1 f k) ((k * 3) + r) (gF1 f k ((k * 3) + r) + gVl pf (gF1 f k) (n + 3) k)
  | 4 => gFs (gF1 f k) k
  | 8 => upd (gF1 f k) (13 + k) (gF1 f k (13 + k) + (if gF1 f k ((k * 3) + r) = 0 then 0 else nI y))
  | _ => gFs (gLk (gF1 f k) (9 + x) ((k * 3) + r) (pf (n + 0)) (gVl pf (gF1 f k) (n + 3) k) (gVl pf (gF1 f k) (n + 5) k)) k
def gMK (pf f : Nat → Int32) (k n : Nat) (mode : Int32) : Nat → Int32 := gMq f pf k n mode (pf (n + 0)).toNatClampNeg (pf (n + 2)).toNatClampNeg (pf (n + 1)).toNatClampNeg (pf (n + 7)).toNatClampNeg
def gStep (pf : Nat → Int32) (mode : Int32) (f : Nat → Int32) (x : Int32) : Nat → Int32 := if x < 3 then gMK pf f x.toNatClampNeg (((x.toNatClampNeg * 8) + gNx (f (13 + x.toNatClampNeg))) * 8) mode else gLg f (x.toNatClampNeg - 3)
theorem gStep_K {pf f : Nat → Int32} {mode : Int32} {k : Nat} (hk : k < 3) : gStep pf mode f (nI k) = gMK pf f k (((k * 8) + gNx (f (13 + k))) * 8) mode := by
  unfold gStep
  have h3 : nI k < (3 : Int32) := (nI_ltI (b := 3) (by omega) (by decide)).mpr hk
  rw [if_pos h3, nI_clamp (by omega)]
theorem gStep_G {pf f : Nat → Int32} {mode : Int32} {k : Nat} (hk : k < 3) : gStep pf mode f (nI (3 + k)) = gLg f k := by
  unfold gStep
  have h3 : ¬ nI (3 + k) < (3 : Int32) := fun q => absurd ((nI_ltI (a := 3 + k) (b := 3) (by omega) (by decide)).mp q) (by omega)
  rw [if_neg h3, nI_clamp (by omega)]
  congr 1; omega
def gS0 (cf : Nat → Int32) : Nat → Int32 := fun j => if 9 ≤ j ∧ j < 13 then cf (j - 9) else 0
theorem gS0_ext {cf e : Nat → Int32} (h : ∀ j, j < 34 → e j = 0) (j : Nat) (hj : j < 34) : va_cpy cf e 0 9 4 j = gS0 cf j := by
  unfold gS0
  by_cases q : 9 ≤ j ∧ j < 13
  · rw [if_pos q, pk_cpy_in (by omega) (by omega)]
    congr 1
    omega
  · rw [if_neg q, pk_cpy_out (by omega)]
    exact h j hj
theorem gS0_ok {cf : Nat → Int32} : gOkW (gS0 cf) := gOkW_0 (fun k _ => if_neg (by omega))
def gRun (pf cf : Nat → Int32) (mode : Int32) (dn : Nat → Int32) : Nat → Nat → Int32
  | 0 => gS0 cf
  | i + 1 => gStep pf mode (gRun pf cf mode dn i) (dn i)
theorem gRun_upd {pf cf dn : Nat → Int32} {mode x : Int32} {st : Nat} : ∀ i, i ≤ st → gRun pf cf mode (upd dn st x) i = gRun pf cf mode dn i
  | 0, _ => rfl
  | i + 1, h => by
    show gStep pf mode (gRun pf cf mode (upd dn st x) i) (upd dn st x i) = gStep pf mode (gRun pf cf mode dn i) (dn i)
    rw [gRun_upd i (by omega), pk_un (by omega)]
theorem gRun_next {pf cf dn : Nat → Int32} {mode x : Int32} {st : Nat} : gRun pf cf mode (upd dn st x) (st + 1) = gStep pf mode (gRun pf cf mode dn st) x := by
  show gStep pf mode (gRun pf cf mode (upd dn st x) st) (upd dn st x st) = _
  rw [gRun_upd st (Nat.le_refl _), pk_us]
def gMach (pf cf : Nat → Int32) (mode : Int32) (dn : Nat → Int32) (L : Nat → Nat) (nc st : Nat) : Prop := (∀ i, i < st → gCan (gRun pf cf mode dn i) L nc (dn i)) ∧ (∀ i, i ≤ st → gOkW (gRun pf cf mode dn i))
theorem gMach_0 {pf cf dn : Nat → Int32} {mode : Int32} {L : Nat → Nat} {nc : Nat} : gMach pf cf mode dn L nc 0 := ⟨fun i h => absurd h (Nat.not_lt_zero i), fun i h => by obtain rfl : i = 0 := Nat.le_zero.mp h; exact gS0_ok⟩
theorem gMach_pred {pf cf dn : Nat → Int32} {mode : Int32} {L : Nat → Nat} {nc st : Nat} (h : gMach pf cf mode dn L nc st) : gMach pf cf mode dn L nc (st - 1) := ⟨fun i hi => h.1 i (by omega), fun i hi => h.2 i (by omega)⟩
theorem gMach_next {pf cf dn : Nat → Int32} {mode x : Int32} {L : Nat → Nat} {nc st : Nat} (h : gMach pf cf mode dn L nc st) (hc : gCan (gRun pf cf mode dn st) L nc x) (hW : gOkW (gStep pf mode (gRun pf cf mode dn st) x)) : gMach pf cf mode (upd dn st x) L nc (st + 1) := by
  refine ⟨fun i hi => ?_, fun i hi => ?_⟩
  · rw [gRun_upd i (by omega)]
    by_cases e : i = st
    · subst e; rw [pk_us]; exact hc
    · rw [pk_un e]; exact h.1 i (by omega)
  · by_cases e : i = st + 1
    · subst e; rw [gRun_next]; exact hW
    · rw [gRun_upd i (by omega)]; exact h.2 i (by omega)
def wsP_e_start : List Cond := .code yX7_start cX7_start 2 none :: (([.fieldLink RX7 11 "LitmusHall$State" "words" "[I", .methodLink RX7 21 yJ7_fill_53178, .static yJ7_fill_53178, .initialized yJ7_fill_53178.cls, .fieldLink RX7 27 "LitmusHall$Program" "cells" "[I", .methodLink RX7 30 arraycopyName, .native arraycopyName, .static arraycopyName, .initialized "java/lang/System"] ++ wsX70 ++ wsX40) ++ (wsP_c_fill ++ []))
theorem gW_e_start : wsP_e_start.all goodWord = true := by unfold wsP_e_start; exact gw_mk (by decide +kernel) (gw_app gW_c_fill rfl)
set_option maxRecDepth 20000 in
theorem gP_e_start__c_fill : GoodIn wsP_e_start (va_wsS RX7 21 yJ7_fill_53178 wsP_c_fill) := gw_in (pre := [.methodLink RX7 21 yJ7_fill_53178, .static yJ7_fill_53178, .initialized yJ7_fill_53178.cls]) (by decide +kernel) (fun _ h => List.mem_cons_of_mem _ (List.mem_append_right _ (List.mem_append_left _ h))) gW_c_fill
set_option maxHeartbeats 4000000 in
set_option maxRecDepth 100000 in
theorem e_start (l : Launch) (D : va_G) (cI cB cZ : ClassId) (h0 : Nat) (a1 : Nat) (f : Nat → Int32) (p0 : Nat) (b2 : Nat) (v0 : Value) (v1 : Value) (v3 : Value) (cf : Nat → Int32)  : gMv l yX7_start wsP_e_start ({ frames := 1, cells := 0, slots := 0, locals := 40 }) D cI cB cZ [] [.ref h0, .ref p0] [(h0, .inr (7, [.ref a1])), (a1, .inl (cI, 34, .inl f)), (p0, .inr (4, [v0, v1, .ref b2, v3])), (b2, .inl (cI, 4, .inl cf))] (fun w9 => w9 = [(h0, .inr (7, [.ref a1])), (a1, .inl (cI, 34, .inl (gS0 cf))), (p0, .inr (4, [v0, v1, .ref b2, v3])), (b2, .inl (cI, 4, .inl cf))]) := by
  refine gMv.of (cc := cX7_start) (maxL := 2) (ret := none) (by decide) rfl (Nat.le_of_ble_eq_true rfl) (fun p e s m below meth c A ls hx hb hr hlk hml hts hown hin hA hP hK hD hS hN hl => ?_)
  have hown : s.vm.findClass RX7 = some m.cls := hown
  have hl : lv_has ls 2 [(0, .ref h0), (1, .ref p0)] := hl
  refine lv_aload_n hx hb dX7_start_0 rfl (lv_at hl 0 rfl) ?_
  refine va_get (D := D) (ci := 7) (v := .ref a1) (C := RX7) (T := TX7) (N := 1) hx hb hts (fun _ h => List.mem_cons_of_mem _ (List.mem_append_left _ (List.mem_append_left _ (List.mem_append_right _ h)))) hown hK hP 0 rfl rfl 0 (by decide) (hts (.fieldLink RX7 11 "LitmusHall$State" "words" "[I") (by decide +kernel)) (fun _ h9 => h9) rfl dX7_start_1 ?_
  refine lv_iconst (v := 0) hx hb dX7_start_4 (by decide) ?_
  refine gx_gov (wc := [(a1, .inl (cI, 34, .inl f))]) (wr := [(h0, .inr (7, [.ref a1])), (p0, .inr (4, [v0, v1, .ref b2, v3])), (b2, .inl (cI, 4, .inl cf))]) (va_runS (As := [.ref a1, .int 0]) (rest := []) ⟨hx, hb, hml, hown, hts⟩ (c_fill l D cI cB cZ a1 34 f 0 (by omega) _) (va_cwS 2 hts gP_e_start__c_fill rfl rfl rfl (by decide +kernel) ⟨Nat.le_of_ble_eq_true rfl, Nat.le_of_ble_eq_true rfl⟩) (gx_preS hK gN.nil hP hD [1] rfl rfl) rfl rfl hl.1 rfl (lv_room (Nat.le_of_ble_eq_true rfl)) dX7_start_5 ⟨Nat.le_of_ble_eq_true rfl, Nat.le_of_ble_eq_true rfl⟩) hP hD hS hA [1] [0, 2, 3] rfl rfl rfl (by decide) (fun w1 H locs hp hP hD hS => ?_)
  obtain ⟨e_1, hq_2, rfl⟩ := hp
  have hq_2 : ∀ j, j < 34 → e_1 j = 0 := hq_2
  refine lv_aload_n hx hb dX7_start_8 rfl (lv_at hl 1 rfl) ?_
  refine va_get (D := D) (ci := 4) (v := .ref b2) (C := RX4) (T := TX4) (N := 4) hx hb hts (fun _ h => List.mem_cons_of_mem _ (List.mem_append_left _ (List.mem_append_right _ h))) hown hK hP 1 rfl rfl 2 (by decide) (hts (.fieldLink RX7 27 "LitmusHall$Program" "cells" "[I") (by decide +kernel)) (fun _ h9 => h9) rfl dX7_start_9 ?_
  refine lv_iconst (v := 0) hx hb dX7_start_12 (by decide) ?_
  refine lv_aload_n hx hb dX7_start_13 rfl (lv_at hl 0 rfl) ?_
  refine va_get (D := D) (ci := 7) (v := .ref a1) (C := RX7) (T := TX7) (N := 1) hx hb hts (fun _ h => List.mem_cons_of_mem _ (List.mem_append_left _ (List.mem_append_left _ (List.mem_append_right _ h)))) hown hK hP 0 rfl rfl 0 (by decide) (hts (.fieldLink RX7 11 "LitmusHall$State" "words" "[I") (by decide +kernel)) (fun _ h9 => h9) rfl dX7_start_14 ?_
  refine lv_bipush (v := 9) hx hb dX7_start_17 (by decide) ?_
  refine lv_iconst (v := 4) hx hb dX7_start_19 (by decide) ?_
  refine gy_copyi (sp := 0) (dp := 9) (n := 4) hx hb (hml.trans hl.1.symm) hown (hts (.methodLink RX7 30 arraycopyName) (by decide +kernel)) (hts (.native arraycopyName) (by decide +kernel)) (hts (.static arraycopyName) (by decide +kernel)) (hts (.initialized "java/lang/System") (by decide +kernel)) hK hP hD hS 2 3 rfl rfl (by omega) (by omega) (by omega) (by omega) (by omega) (Nat.le_of_ble_eq_true rfl) (Nat.le_of_ble_eq_true rfl) dX7_start_20 (fun H locs hP hD hS => ?_)
  have hP : va_P D vwCl [(h0, .inr (7, [.ref a1])), (p0, .inr (4, [v0, v1, .ref b2, v3])), (b2, .inl (cI, 4, .inl cf)), (a1, .inl (cI, 34, .inl (va_cpy cf e_1 0 9 4)))] H := hP
  have hD : va_D A [(h0, .inr (7, [.ref a1])), (p0, .inr (4, [v0, v1, .ref b2, v3])), (b2, .inl (cI, 4, .inl cf)), (a1, .inl (cI, 34, .inl (va_cpy cf e_1 0 9 4)))] := hD
  have hP := gy_ext hP 3 rfl (gS0 cf) (gS0_ext hq_2)
  have hD := gy_extD (y := .inl (cI, 34, .inl (gS0 cf))) hD 3 rfl
  have hP : va_P D vwCl [(h0, .inr (7, [.ref a1])), (p0, .inr (4, [v0, v1, .ref b2, v3])), (b2, .inl (cI, 4, .inl cf)), (a1, .inl (cI, 34, .inl (gS0 cf)))] H := hP
  have hD : va_D A [(h0, .inr (7, [.ref a1])), (p0, .inr (4, [v0, v1, .ref b2, v3])), (b2, .inl (cI, 4, .inl cf)), (a1, .inl (cI, 34, .inl (gS0 cf)))] := hD
  have hP := hP.sub (ws' := [(h0, .inr (7, [.ref a1])), (a1, .inl (cI, 34, .inl (gS0 cf))), (p0, .inr (4, [v0, v1, .ref b2, v3])), (b2, .inl (cI, 4, .inl cf))]) [0, 3, 1, 2] rfl
  have hD := hD.sub (ws' := [(h0, .inr (7, [.ref a1])), (a1, .inl (cI, 34, .inl (gS0 cf))), (p0, .inr (4, [v0, v1, .ref b2, v3])), (b2, .inl (cI, 4, .inl cf))]) [0, 3, 1, 2] (by decide) rfl
  exact gx_vret (w' := [(h0, .inr (7, [.ref a1])), (a1, .inl (cI, 34, .inl (gS0 cf))), (p0, .inr (4, [v0, v1, .ref b2, v3])), (b2, .inl (cI, 4, .inl cf))]) hx hb hr hlk hK hP hD hS (Nat.le_of_ble_eq_true rfl) (Nat.le_of_ble_eq_true rfl) dX7_start_23 rfl
def wsP_e_moveG : List Cond := .code yX7_move cX7_move 8 none :: (([.methodLink RX7 57 yX7_letGo, .instanceMethod yX7_letGo, .selects RX7 yX7_letGo yX7_letGo, .initialized RX7]) ++ (wsP_e_letGo ++ []))
theorem gW_e_moveG : wsP_e_moveG.all goodWord = true := by unfold wsP_e_moveG; exact gw_mk (by decide +kernel) (gw_app gW_e_letGo rfl)
set_option maxRecDepth 20000 in
theorem gP_e_moveG__e_letGo : GoodIn wsP_e_moveG (wsV RX7 57 RX7 yX7_letGo wsP_e_letGo) := gw_in (pre := [.methodLink RX7 57 yX7_letGo, .instanceMethod yX7_letGo, .selects RX7 yX7_letGo yX7_letGo, .initialized RX7]) (by decide +kernel) (fun _ h => List.mem_cons_of_mem _ (List.mem_append_right _ (List.mem_append_left _ h))) gW_e_letGo
set_option maxHeartbeats 4000000 in
set_option maxRecDepth 100000 in
theorem e_moveG (l : Launch) (D : va_G) (cI cB cZ : ClassId) (h0 : Nat) (a1 : Nat) (f : Nat → Int32) (p0 : Nat) (k : Nat) (mode : Int32) (hk : k < 3) : gMv l yX7_move wsP_e_moveG ({ frames := 2, cells := 0, slots := 0, locals := 64 }) D cI cB cZ [] [.ref h0, .ref p0, .int (nI (3 + k)), .int mode] [(h0, .inr (7, [.ref a1])), (a1, .inl (cI, 34, .inl f))] (fun w9 => w9 = [(h0, .inr (7, [.ref a1])), (a1, .inl (cI, 34, .inl (gLg f k)))]) := by
  refine gMv.of (cc := cX7_move) (maxL := 8) (ret := none) (by decide) rfl (Nat.le_of_ble_eq_true rfl) (fun p e s m below meth c A ls hx hb hr hlk hml hts hown hin hA hP hK hD hS hN hl => ?_)
  have hown : s.vm.findClass RX7 = some m.cls := hown
  have hl : lv_has ls 8 [(0, .ref h0), (1, .ref p0), (2, .int (nI (3 + k))), (3, .int mode)] := hl
  refine lv_iload_n hx hb dX7_move_0 rfl (lv_at hl 2 rfl) ?_
  refine lv_iconst (v := 3) hx hb dX7_move_1 (by decide) ?_
  refine gy_lt (a := (3 + k)) (b := 3) (tgt := 13) hx hb (by omega) (by omega) dX7_move_2 (by decide) (fun c_1 => ?_) (fun c_1 => ?_)
  · exfalso; omega
  · refine lv_aload_n hx hb dX7_move_5 rfl (lv_at hl 0 rfl) ?_
    refine lv_iload_n hx hb dX7_move_6 rfl (lv_at hl 2 rfl) ?_
    refine lv_iconst (v := 3) hx hb dX7_move_7 (by decide) ?_
    refine lv_isub hx hb dX7_move_8 ?_
    refine gx_top (y := nI k) (show nI (3 + k) - nI 3 = nI k by rw [pk_sub (a := 3 + k) (b := 3) (by omega)]; congr 1; omega) ?_
    refine gx_gov (wc := [(h0, .inr (7, [.ref a1])), (a1, .inl (cI, 34, .inl f))]) (wr := []) (va_runV (As := [.int (nI k)]) (rest := []) ⟨hx, hb, hml, hown, hts⟩ (e_letGo l D cI cB cZ h0 a1 f k (by omega) _) (cwV 1 hts gP_e_moveG__e_letGo rfl rfl rfl (by decide +kernel) ⟨Nat.le_of_ble_eq_true rfl, Nat.le_of_ble_eq_true rfl⟩) (gx_preV (ci := 7) (q0 := 0) hK gN.nil hP hD [0, 1] rfl rfl rfl rfl) rfl rfl hl.1 rfl (lv_room (Nat.le_of_ble_eq_true rfl)) dX7_move_9 ⟨Nat.le_of_ble_eq_true rfl, Nat.le_of_ble_eq_true rfl⟩) hP hD hS hA [0, 1] [] rfl rfl rfl (by decide) (fun w1 H locs hp hP hD hS => ?_)
    obtain ⟨rfl⟩ := hp
    exact gx_vret (w' := [(h0, .inr (7, [.ref a1])), (a1, .inl (cI, 34, .inl (gLg f k)))]) hx hb hr hlk hK hP hD hS (Nat.le_of_ble_eq_true rfl) (Nat.le_of_ble_eq_true rfl) dX7_move_12 rfl
theorem gW_c_partsAt : wsP_c_partsAt.all goodWord = true := by decide +kernel
def wsP_e_moveK : List Cond := .code yX7_move cX7_move 8 none :: (([.fieldLink RX7 61 "LitmusHall$Program" "parts" "[I", .methodLink RX7 43 yX7_nextOf, .instanceMethod yX7_nextOf, .selects RX7 yX7_nextOf yX7_nextOf, .initialized RX7, .methodLink RX7 64 yX4_partsAt, .static yX4_partsAt, .initialized yX4_partsAt.cls, .fieldLink RX7 11 "LitmusHall$State" "words" "[I", .methodLink RX7 68 yX7_seen, .instanceMethod yX7_seen, .selects RX7 yX7_seen yX7_seen, .methodLink RX7 71 yX7_valueOf, .instanceMethod yX7_valueOf, .selects RX7 yX7_valueOf yX7_valueOf, .methodLink RX7 75 yX7_put, .instanceMethod yX7_put, .selects RX7 yX7_put yX7_put, .methodLink RX7 79 yX7_forgetStored, .instanceMethod yX7_forgetStored, .selects RX7 yX7_forgetStored yX7_forgetStored, .methodLink RX7 82 yX7_lock, .instanceMethod yX7_lock, .selects RX7 yX7_lock yX7_lock] ++ wsX40 ++ wsX70) ++ (wsP_c_nextOf ++ (wsP_c_partsAt ++ (wsP_e_seen ++ (wsP_e_valueOf ++ (wsP_e_put ++ (wsP_e_forgetStored ++ (wsP_e_lock ++ []))))))))
theorem gW_e_moveK : wsP_e_moveK.all goodWord = true := by unfold wsP_e_moveK; exact gw_mk (by decide +kernel) (gw_app gW_c_nextOf (gw_app gW_c_partsAt (gw_app gW_e_seen (gw_app gW_e_valueOf (gw_app gW_e_put (gw_app gW_e_forgetStored (gw_app gW_e_lock rfl)))))))
set_option maxRecDepth 20000 in
theorem gP_e_moveK__c_nextOf : GoodIn wsP_e_moveK (wsV RX7 43 RX7 yX7_nextOf wsP_c_nextOf) := gw_in (pre := [.methodLink RX7 43 yX7_nextOf, .instanceMethod yX7_nextOf, .selects RX7 yX7_nextOf yX7_nextOf, .initialized RX7]) (by decide +kernel) (fun _ h => List.mem_cons_of_mem _ (List.mem_append_right _ (List.mem_append_left _ h))) gW_c_nextOf
set_option maxRecDepth 20000 in
theorem gP_e_moveK__c_partsAt : GoodIn wsP_e_moveK (va_wsS RX7 64 yX4_partsAt wsP_c_partsAt) := gw_in (pre := [.methodLink RX7 64 yX4_partsAt, .static yX4_partsAt, .initialized yX4_partsAt.cls]) (by decide +kernel) (fun _ h => List.mem_cons_of_mem _ (List.mem_append_right _ (List.mem_append_right _ (List.mem_append_left _ h)))) gW_c_partsAt
set_option maxRecDepth 20000 in
theorem gP_e_moveK__e_seen : GoodIn wsP_e_moveK (wsV RX7 68 RX7 yX7_seen wsP_e_seen) := gw_in (pre := [.methodLink RX7 68 yX7_seen, .instanceMethod yX7_seen, .selects RX7 yX7_seen yX7_seen, .initialized RX7]) (by decide +kernel) (fun _ h => List.mem_cons_of_mem _ (List.mem_append_right _ (List.mem_append_right _ (List.mem_append_right _ (List.mem_append_left _ h))))) gW_e_seen
set_option maxRecDepth 20000 in
theorem gP_e_moveK__e_valueOf : GoodIn wsP_e_moveK (wsV RX7 71 RX7 yX7_valueOf wsP_e_valueOf) := gw_in (pre := [.methodLink RX7 71 yX7_valueOf, .instanceMethod yX7_valueOf, .selects RX7 yX7_valueOf yX7_valueOf, .initialized RX7]) (by decide +kernel) (fun _ h => List.mem_cons_of_mem _ (List.mem_append_right _ (List.mem_append_right _ (List.mem_append_right _ (List.mem_append_right _ (List.mem_append_left _ h)))))) gW_e_valueOf
set_option maxRecDepth 20000 in
theorem gP_e_moveK__e_put : GoodIn wsP_e_moveK (wsV RX7 75 RX7 yX7_put wsP_e_put) := gw_in (pre := [.methodLink RX7 75 yX7_put, .instanceMethod yX7_put, .selects RX7 yX7_put yX7_put, .initialized RX7]) (by decide +kernel) (fun _ h => List.mem_cons_of_mem _ (List.mem_append_right _ (List.mem_append_right _ (List.mem_append_right _ (List.mem_append_right _ (List.mem_append_right _ (List.mem_append_left _ h))))))) gW_e_put
set_option maxRecDepth 20000 in
theorem gP_e_moveK__e_forgetStored : GoodIn wsP_e_moveK (wsV RX7 79 RX7 yX7_forgetStored wsP_e_forgetStored) := gw_in (pre := [.methodLink RX7 79 yX7_forgetStored, .instanceMethod yX7_forgetStored, .selects RX7 yX7_forgetStored yX7_forgetStored, .initialized RX7]) (by decide +kernel) (fun _ h => List.mem_cons_of_mem _ (List.mem_append_right _ (List.mem_append_right _ (List.mem_append_right _ (List.mem_append_right _ (List.mem_append_right _ (List.mem_append_right _ (List.mem_append_left _ h)))))))) gW_e_forgetStored
set_option maxRecDepth 20000 in
theorem gP_e_moveK__e_lock : GoodIn wsP_e_moveK (wsV RX7 82 RX7 yX7_lock wsP_e_lock) := gw_in (pre := [.methodLink RX7 82 yX7_lock, .instanceMethod yX7_lock, .selects RX7 yX7_lock yX7_lock, .initialized RX7]) (by decide +kernel) (fun _ h => List.mem_cons_of_mem _ (List.mem_append_right _ (List.mem_append_right _ (List.mem_append_right _ (List.mem_append_right _ (List.mem_append_right _ (List.mem_append_right _ (List.mem_append_right _ (List.mem_append_left _ h))))))))) gW_e_lock
set_option maxHeartbeats 4000000 in
set_option maxRecDepth 100000 in
theorem e_moveK (l : Launch) (D : va_G) (cI cB cZ : ClassId) (h0 : Nat) (a1 : Nat) (f : Nat → Int32) (p0 : Nat) (b1 : Nat) (b3 : Nat) (v2 : Value) (nc : Nat) (L : Nat → Nat) (pf : Nat → Int32) (k : Nat) (i : Nat) (n : Nat) (b9 : Nat) (mode : Int32) (hc : nc ≤ 3) (hL : ∀ k, k < 3 → L k ≤ 8) (hk : k < nc) (hi : gNx (f (13 + k)) = i) (hnl : i < L k) (hn : ((k * 8) + i) * 8 = n) (hb9 : i + 1 + b9 < 16) (hI : gIns pf n b9) (hW : gOkW f) : gMv l yX7_move wsP_e_moveK ({ frames := 2, cells := 0, slots := 0, locals := 54 }) D cI cB cZ [] [.ref h0, .ref p0, .int (nI k), .int mode] [(h0, .inr (7, [.ref a1])), (a1, .inl (cI, 34, .inl f)), (p0, .inr (4, [.int (nI nc), .ref b1, v2, .ref b3])), (b1, .inl (cI, 3, .inl (fun j => nI (L j)))), (b3, .inl (cI, 192, .inl pf))] (fun w9 => ∃ g : Nat → Int32, (gOkW g) ∧ (g = gMK pf f k n mode) ∧ w9 = [(h0, .inr (7, [.ref a1])), (a1, .inl (cI, 34, .inl g)), (p0, .inr (4, [.int (nI nc), .ref b1, v2, .ref b3])), (b1, .inl (cI, 3, .inl (fun j => nI (L j)))), (b3, .inl (cI, 192, .inl pf))]) := by
  refine gMv.of (cc := cX7_move) (maxL := 8) (ret := none) (by decide) rfl (Nat.le_of_ble_eq_true rfl) (fun p e s m below meth c A ls hx hb hr hlk hml hts hown hin hA hP hK hD hS hN hl => ?_)
  have hown : s.vm.findClass RX7 = some m.cls := hown
  have hl : lv_has ls 8 [(0, .ref h0), (1, .ref p0), (2, .int (nI k)), (3, .int mode)] := hl
  have hL0 := hL k (by omega)
  obtain ⟨q, hq8, hq, hgr, hgc, h3, h5, hgs⟩ := hI
  have hW1 : gOkW (upd f (13 + k) ((f (13 + k)) + 1)) := gOkW_in' hW (gLo_inc (y := 1) (gOkW_lo hW (by omega)) hi (by omega))
  refine lv_iload_n hx hb dX7_move_0 rfl (lv_at hl 2 rfl) ?_
  refine lv_iconst (v := 3) hx hb dX7_move_1 (by decide) ?_
  refine gy_lt (a := k) (b := 3) (tgt := 13) hx hb (by omega) (by omega) dX7_move_2 (by decide) (fun c_1 => ?_) (fun c_1 => ?_)
  · refine lv_aload_n hx hb dX7_move_13 rfl (lv_at hl 1 rfl) ?_
    refine va_get (D := D) (ci := 4) (v := .ref b3) (C := RX4) (T := TX4) (N := 4) hx hb hts (fun _ h => List.mem_cons_of_mem _ (List.mem_append_left _ (List.mem_append_left _ (List.mem_append_right _ h)))) hown hK hP 2 rfl rfl 3 (by decide) (hts (.fieldLink RX7 61 "LitmusHall$Program" "parts" "[I") (by decide +kernel)) (fun _ h9 => h9) rfl dX7_move_14 ?_
    refine lv_astore (lv' := [(4, .ref b3), (0, .ref h0), (1, .ref p0), (2, .int (nI k)), (3, .int mode)]) hx hb dX7_move_17 hl (by decide) rfl (fun ls hl => ?_)
    refine lv_iload_n hx hb dX7_move_19 rfl (lv_at hl 3 rfl) ?_
    refine lv_aload_n hx hb dX7_move_20 rfl (lv_at hl 1 rfl) ?_
    refine lv_iload_n hx hb dX7_move_21 rfl (lv_at hl 3 rfl) ?_
    refine gx_goi (wc := [(h0, .inr (7, [.ref a1])), (a1, .inl (cI, 34, .inl f))]) (wr := [(p0, .inr (4, [.int (nI nc), .ref b1, v2, .ref b3])), (b1, .inl (cI, 3, .inl (fun j => nI (L j)))), (b3, .inl (cI, 192, .inl pf))]) (va_runV (As := [.int (nI k)]) (rest := [.int (nI k)]) ⟨hx, hb, hml, hown, hts⟩ (c_nextOf l D cI cB cZ h0 a1 f k (by omega) _) (cwV 1 hts gP_e_moveK__c_nextOf rfl rfl rfl (by decide +kernel) ⟨Nat.le_of_ble_eq_true rfl, Nat.le_of_ble_eq_true rfl⟩) (gx_preV (ci := 7) (q0 := 0) hK gN.nil hP hD [0, 1] rfl rfl rfl rfl) rfl rfl hl.1 rfl (lv_room (Nat.le_of_ble_eq_true rfl)) dX7_move_22 ⟨Nat.le_of_ble_eq_true rfl, Nat.le_of_ble_eq_true rfl⟩) hP hD hS hA [0, 1] [2, 3, 4] rfl rfl rfl (by decide) (fun r1 w1 H locs hp hP hD hS => ?_)
    obtain ⟨h9, rfl⟩ := hp
    have h9 := h9.symm
    subst h9
    refine gx_top (y := nI i) (by rw [hi]) ?_
    refine gx_goi (wc := []) (wr := [(p0, .inr (4, [.int (nI nc), .ref b1, v2, .ref b3])), (b1, .inl (cI, 3, .inl (fun j => nI (L j)))), (b3, .inl (cI, 192, .inl pf)), (h0, .inr (7, [.ref a1])), (a1, .inl (cI, 34, .inl f))]) (va_runS (As := [.int (nI k), .int (nI i)]) (rest := []) ⟨hx, hb, hml, hown, hts⟩ (c_partsAt l D cI cB cZ k i _) (va_cwS 2 hts gP_e_moveK__c_partsAt rfl rfl rfl (by decide +kernel) ⟨Nat.le_of_ble_eq_true rfl, Nat.le_of_ble_eq_true rfl⟩) (gx_preS hK gN.nil hP hD [] rfl rfl) rfl rfl hl.1 rfl (lv_room (Nat.le_of_ble_eq_true rfl)) dX7_move_25 ⟨Nat.le_of_ble_eq_true rfl, Nat.le_of_ble_eq_true rfl⟩) hP hD hS hA [] [0, 1, 2, 3, 4] rfl rfl rfl (by decide) (fun r1 w1 H locs hp hP hD hS => ?_)
    obtain ⟨h9, rfl⟩ := hp
    have h9 := h9.symm
    subst h9
    refine gx_top (y := nI n) (by rw [hn]) ?_
    refine lv_istore (lv' := [(5, .int (nI n)), (4, .ref b3), (0, .ref h0), (1, .ref p0), (2, .int (nI k)), (3, .int mode)]) hx hb dX7_move_28 hl (by decide) rfl (fun ls hl => ?_)
    refine lv_aload hx hb dX7_move_30 (lv_at hl 1 rfl) ?_
    refine lv_iload hx hb dX7_move_32 (lv_at hl 0 rfl) ?_
    refine lv_iconst (v := 1) hx hb dX7_move_34 (by decide) ?_
    refine lv_iadd hx hb dX7_move_35 ?_
    refine gx_top (y := nI (n + 1)) (nI_add n 1) ?_
    refine gy_ild (i := (n + 1)) hx hb hK hP 2 rfl (by omega) (by omega) dX7_move_36 ?_
    refine lv_istore (lv' := [(6, .int (pf (n + 1))), (5, .int (nI n)), (4, .ref b3), (0, .ref h0), (1, .ref p0), (2, .int (nI k)), (3, .int mode)]) hx hb dX7_move_37 hl (by decide) rfl (fun ls hl => ?_)
    refine lv_iload_n hx hb dX7_move_39 rfl (lv_at hl 5 rfl) ?_
    refine lv_iconst (v := 3) hx hb dX7_move_40 (by decide) ?_
    refine lv_imul hx hb dX7_move_41 ?_
    refine gx_top (y := nI (k * 3)) (pk_mul k 3) ?_
    refine lv_aload hx hb dX7_move_42 (lv_at hl 2 rfl) ?_
    refine lv_iload hx hb dX7_move_44 (lv_at hl 1 rfl) ?_
    refine lv_iconst (v := 2) hx hb dX7_move_46 (by decide) ?_
    refine lv_iadd hx hb dX7_move_47 ?_
    refine gx_top (y := nI (n + 2)) (nI_add n 2) ?_
    refine gy_ild (i := (n + 2)) hx hb hK hP 2 rfl (by omega) (by omega) dX7_move_48 ?_
    refine lv_iadd hx hb dX7_move_49 ?_
    refine lv_istore (lv' := [(7, .int ((nI (k * 3)) + (pf (n + 2)))), (6, .int (pf (n + 1))), (5, .int (nI n)), (4, .ref b3), (0, .ref h0), (1, .ref p0), (2, .int (nI k)), (3, .int mode)]) hx hb dX7_move_50 hl (by decide) rfl (fun ls hl => ?_)
    refine lv_aload_n hx hb dX7_move_52 rfl (lv_at hl 4 rfl) ?_
    refine va_get (D := D) (ci := 7) (v := .ref a1) (C := RX7) (T := TX7) (N := 1) hx hb hts (fun _ h => List.mem_cons_of_mem _ (List.mem_append_left _ (List.mem_append_right _ h))) hown hK hP 3 rfl rfl 0 (by decide) (hts (.fieldLink RX7 11 "LitmusHall$State" "words" "[I") (by decide +kernel)) (fun _ h9 => h9) rfl dX7_move_53 ?_
    refine lv_bipush (v := 13) hx hb dX7_move_56 (by decide) ?_
    refine lv_iload_n hx hb dX7_move_58 rfl (lv_at hl 6 rfl) ?_
    refine lv_iadd hx hb dX7_move_59 ?_
    refine gx_top (y := nI (13 + k)) (nI_add 13 k) ?_
    refine lv_dup2_11 hx hb dX7_move_60 rfl rfl ?_
    refine gy_ild (i := (13 + k)) hx hb hK hP 4 rfl (by omega) (by omega) dX7_move_61 ?_
    refine lv_iconst (v := 1) hx hb dX7_move_62 (by decide) ?_
    refine lv_iadd hx hb dX7_move_63 ?_
    refine gy_ist (i := (13 + k)) hx hb hK hP hD hS 4 rfl (by omega) (by omega) dX7_move_64 (fun H locs hP hD hS => ?_)
    have hP : va_P D vwCl [(p0, .inr (4, [.int (nI nc), .ref b1, v2, .ref b3])), (b1, .inl (cI, 3, .inl (fun j => nI (L j)))), (b3, .inl (cI, 192, .inl pf)), (h0, .inr (7, [.ref a1])), (a1, .inl (cI, 34, .inl (upd f (13 + k) ((f (13 + k)) + 1))))] H := hP
    have hD : va_D A [(p0, .inr (4, [.int (nI nc), .ref b1, v2, .ref b3])), (b1, .inl (cI, 3, .inl (fun j => nI (L j)))), (b3, .inl (cI, 192, .inl pf)), (h0, .inr (7, [.ref a1])), (a1, .inl (cI, 34, .inl (upd f (13 + k) ((f (13 + k)) + 1))))] := hD
    refine lv_aload hx hb dX7_move_65 (lv_at hl 3 rfl) ?_
    refine lv_iload hx hb dX7_move_67 (lv_at hl 2 rfl) ?_
    refine lv_iconst (v := 0) hx hb dX7_move_69 (by decide) ?_
    refine lv_iadd hx hb dX7_move_70 ?_
    refine gx_top (y := nI (n + 0)) (nI_add n 0) ?_
    refine gy_ild (i := (n + 0)) hx hb hK hP 2 rfl (by omega) (by omega) dX7_move_71 ?_
    refine gx_top (y := nI q) hq ?_
    rcases (show q = 0 ∨ q = 1 ∨ q = 2 ∨ q = 3 ∨ q = 4 ∨ q = 5 ∨ q = 6 ∨ q = 7 ∨ q = 8 by omega) with rfl | rfl | rfl | rfl | rfl | rfl | rfl | rfl | rfl
    · refine lv_tableIn (off := 52) (tgt := 124) hx hb dX7_move_72 (by decide +kernel) (by decide +kernel) (by decide +kernel) (by decide) ?_
      obtain ⟨r, hr0, er⟩ := hgr (by decide) (by decide)
      obtain ⟨x, hx0, ex⟩ := hgc (by decide) (by decide) (by decide) (by decide)
      refine lv_aload_n hx hb dX7_move_124 rfl (lv_at hl 4 rfl) ?_
      refine va_get (D := D) (ci := 7) (v := .ref a1) (C := RX7) (T := TX7) (N := 1) hx hb hts (fun _ h => List.mem_cons_of_mem _ (List.mem_append_left _ (List.mem_append_right _ h))) hown hK hP 3 rfl rfl 0 (by decide) (hts (.fieldLink RX7 11 "LitmusHall$State" "words" "[I") (by decide +kernel)) (fun _ h9 => h9) rfl dX7_move_125 ?_
      refine lv_iload hx hb dX7_move_128 (lv_at hl 0 rfl) ?_
      refine gx_top (y := nI ((k * 3) + r)) (by rw [er]; exact nI_add (k * 3) r) ?_
      refine lv_aload_n hx hb dX7_move_130 rfl (lv_at hl 4 rfl) ?_
      refine lv_iload_n hx hb dX7_move_131 rfl (lv_at hl 6 rfl) ?_
      refine lv_iload hx hb dX7_move_132 (lv_at hl 1 rfl) ?_
      refine gx_top (y := nI x) ex ?_
      refine gx_goi (wc := [(h0, .inr (7, [.ref a1])), (a1, .inl (cI, 34, .inl (upd f (13 + k) ((f (13 + k)) + 1))))]) (wr := [(p0, .inr (4, [.int (nI nc), .ref b1, v2, .ref b3])), (b1, .inl (cI, 3, .inl (fun j => nI (L j)))), (b3, .inl (cI, 192, .inl pf))]) (va_runV (As := [.int (nI k), .int (nI x)]) (rest := [.int (nI ((k * 3) + r)), .ref a1]) ⟨hx, hb, hml, hown, hts⟩ (e_seen l D cI cB cZ h0 a1 (upd f (13 + k) ((f (13 + k)) + 1)) k x (by omega) (by omega) hW1 _) (cwV 2 hts gP_e_moveK__e_seen rfl rfl rfl (by decide +kernel) ⟨Nat.le_of_ble_eq_true rfl, Nat.le_of_ble_eq_true rfl⟩) (gx_preV (ci := 7) (q0 := 0) hK gN.nil hP hD [3, 4] rfl rfl rfl rfl) rfl rfl hl.1 rfl (lv_room (Nat.le_of_ble_eq_true rfl)) dX7_move_134 ⟨Nat.le_of_ble_eq_true rfl, Nat.le_of_ble_eq_true rfl⟩) hP hD hS hA [3, 4] [0, 1, 2] rfl rfl rfl (by decide) (fun r1 w1 H locs hp hP hD hS => ?_)
      obtain ⟨h9, rfl⟩ := hp
      have h9 := h9.symm
      subst h9
      refine gy_ist (i := ((k * 3) + r)) hx hb hK hP hD hS 4 rfl (by omega) (by omega) dX7_move_137 (fun H locs hP hD hS => ?_)
      have hP : va_P D vwCl [(p0, .inr (4, [.int (nI nc), .ref b1, v2, .ref b3])), (b1, .inl (cI, 3, .inl (fun j => nI (L j)))), (b3, .inl (cI, 192, .inl pf)), (h0, .inr (7, [.ref a1])), (a1, .inl (cI, 34, .inl (upd (upd f (13 + k) ((f (13 + k)) + 1)) ((k * 3) + r) (gSn (upd f (13 + k) ((f (13 + k)) + 1)) k x (gSz ((upd f (13 + k) ((f (13 + k)) + 1)) (13 + k)))))))] H := hP
      have hD : va_D A [(p0, .inr (4, [.int (nI nc), .ref b1, v2, .ref b3])), (b1, .inl (cI, 3, .inl (fun j => nI (L j)))), (b3, .inl (cI, 192, .inl pf)), (h0, .inr (7, [.ref a1])), (a1, .inl (cI, 34, .inl (upd (upd f (13 + k) ((f (13 + k)) + 1)) ((k * 3) + r) (gSn (upd f (13 + k) ((f (13 + k)) + 1)) k x (gSz ((upd f (13 + k) ((f (13 + k)) + 1)) (13 + k)))))))] := hD
      have hWf := gOkW_out hW1 (i := (k * 3) + r) (x := gSn (upd f (13 + k) ((f (13 + k)) + 1)) k x (gSz ((upd f (13 + k) ((f (13 + k)) + 1)) (13 + k)))) (by omega)
      refine lv_goto (tgt := 267) hx hb dX7_move_138 (by decide) ?_
      have hP := hP.sub (ws' := [(h0, .inr (7, [.ref a1])), (a1, .inl (cI, 34, .inl (upd (upd f (13 + k) ((f (13 + k)) + 1)) ((k * 3) + r) (gSn (upd f (13 + k) ((f (13 + k)) + 1)) k x (gSz ((upd f (13 + k) ((f (13 + k)) + 1)) (13 + k))))))), (p0, .inr (4, [.int (nI nc), .ref b1, v2, .ref b3])), (b1, .inl (cI, 3, .inl (fun j => nI (L j)))), (b3, .inl (cI, 192, .inl pf))]) [3, 4, 0, 1, 2] rfl
      have hD := hD.sub (ws' := [(h0, .inr (7, [.ref a1])), (a1, .inl (cI, 34, .inl (upd (upd f (13 + k) ((f (13 + k)) + 1)) ((k * 3) + r) (gSn (upd f (13 + k) ((f (13 + k)) + 1)) k x (gSz ((upd f (13 + k) ((f (13 + k)) + 1)) (13 + k))))))), (p0, .inr (4, [.int (nI nc), .ref b1, v2, .ref b3])), (b1, .inl (cI, 3, .inl (fun j => nI (L j)))), (b3, .inl (cI, 192, .inl pf))]) [3, 4, 0, 1, 2] (by decide) rfl
      exact gx_vret (w' := [(h0, .inr (7, [.ref a1])), (a1, .inl (cI, 34, .inl (upd (upd f (13 + k) ((f (13 + k)) + 1)) ((k * 3) + r) (gSn (upd f (13 + k) ((f (13 + k)) + 1)) k x (gSz ((upd f (13 + k) ((f (13 + k)) + 1)) (13 + k))))))), (p0, .inr (4, [.int (nI nc), .ref b1, v2, .ref b3])), (b1, .inl (cI, 3, .inl (fun j => nI (L j)))), (b3, .inl (cI, 192, .inl pf))]) hx hb hr hlk hK hP hD hS (Nat.le_of_ble_eq_true rfl) (Nat.le_of_ble_eq_true rfl) dX7_move_267 ⟨(upd (upd f (13 + k) ((f (13 + k)) + 1)) ((k * 3) + r) (gSn (upd f (13 + k) ((f (13 + k)) + 1)) k x (gSz ((upd f (13 + k) ((f (13 + k)) + 1)) (13 + k))))), hWf, (by (try rw [hge]); unfold gMK; rw [hq, nI_clamp (n := 0) (by omega)]; (try rw [er, nI_clamp (n := r) (by omega)]); (try rw [ex, nI_clamp (n := x) (by omega)]); (try rw [ey, nI_clamp (n := y) (by omega)]); (try unfold gMq); (try rw [hq]); (try unfold gF1); (try rw [if_neg c_1]); (try rw [if_pos c_1]); first | done | rfl), rfl⟩
    · refine lv_tableIn (off := 69) (tgt := 141) hx hb dX7_move_72 (by decide +kernel) (by decide +kernel) (by decide +kernel) (by decide) ?_
      obtain ⟨x, hx0, ex⟩ := hgc (by decide) (by decide) (by decide) (by decide)
      refine lv_aload_n hx hb dX7_move_141 rfl (lv_at hl 4 rfl) ?_
      refine lv_iload_n hx hb dX7_move_142 rfl (lv_at hl 6 rfl) ?_
      refine lv_iload hx hb dX7_move_143 (lv_at hl 1 rfl) ?_
      refine gx_top (y := nI x) ex ?_
      refine lv_aload_n hx hb dX7_move_145 rfl (lv_at hl 4 rfl) ?_
      refine lv_aload hx hb dX7_move_146 (lv_at hl 3 rfl) ?_
      refine lv_iload hx hb dX7_move_148 (lv_at hl 2 rfl) ?_
      refine lv_iconst (v := 3) hx hb dX7_move_150 (by decide) ?_
      refine lv_iadd hx hb dX7_move_151 ?_
      refine gx_top (y := nI (n + 3)) (nI_add n 3) ?_
      refine lv_iload_n hx hb dX7_move_152 rfl (lv_at hl 6 rfl) ?_
      refine gx_goi (wc := [(h0, .inr (7, [.ref a1])), (a1, .inl (cI, 34, .inl (upd f (13 + k) ((f (13 + k)) + 1)))), (b3, .inl (cI, 192, .inl pf))]) (wr := [(p0, .inr (4, [.int (nI nc), .ref b1, v2, .ref b3])), (b1, .inl (cI, 3, .inl (fun j => nI (L j))))]) (va_runV (As := [.ref b3, .int (nI (n + 3)), .int (nI k)]) (rest := [.int (nI x), .int (nI k), .ref h0]) ⟨hx, hb, hml, hown, hts⟩ (e_valueOf l D cI cB cZ h0 a1 (upd f (13 + k) ((f (13 + k)) + 1)) b3 pf (n + 3) k (by omega) (by omega) h3 _) (cwV 3 hts gP_e_moveK__e_valueOf rfl rfl rfl (by decide +kernel) ⟨Nat.le_of_ble_eq_true rfl, Nat.le_of_ble_eq_true rfl⟩) (gx_preV (ci := 7) (q0 := 0) hK gN.nil hP hD [3, 4, 2] rfl rfl rfl rfl) rfl rfl hl.1 rfl (lv_room (Nat.le_of_ble_eq_true rfl)) dX7_move_153 ⟨Nat.le_of_ble_eq_true rfl, Nat.le_of_ble_eq_true rfl⟩) hP hD hS hA [3, 4, 2] [0, 1] rfl rfl rfl (by decide) (fun r1 w1 H locs hp hP hD hS => ?_)
      obtain ⟨h9, rfl⟩ := hp
      have h9 := h9.symm
      subst h9
      refine lv_iload_n hx hb dX7_move_156 rfl (lv_at hl 7 rfl) ?_
      refine gx_gov (wc := [(h0, .inr (7, [.ref a1])), (a1, .inl (cI, 34, .inl (upd f (13 + k) ((f (13 + k)) + 1))))]) (wr := [(p0, .inr (4, [.int (nI nc), .ref b1, v2, .ref b3])), (b1, .inl (cI, 3, .inl (fun j => nI (L j)))), (b3, .inl (cI, 192, .inl pf))]) (va_runV (As := [.int (nI k), .int (nI x), .int (gVl pf (upd f (13 + k) ((f (13 + k)) + 1)) (n + 3) k), .int mode]) (rest := []) ⟨hx, hb, hml, hown, hts⟩ (e_put l D cI cB cZ h0 a1 (upd f (13 + k) ((f (13 + k)) + 1)) k x (gVl pf (upd f (13 + k) ((f (13 + k)) + 1)) (n + 3) k) mode (by omega) (by omega) _) (cwV 4 hts gP_e_moveK__e_put rfl rfl rfl (by decide +kernel) ⟨Nat.le_of_ble_eq_true rfl, Nat.le_of_ble_eq_true rfl⟩) (gx_preV (ci := 7) (q0 := 0) hK gN.nil hP hD [2, 3] rfl rfl rfl rfl) rfl rfl hl.1 rfl (lv_room (Nat.le_of_ble_eq_true rfl)) dX7_move_157 ⟨Nat.le_of_ble_eq_true rfl, Nat.le_of_ble_eq_true rfl⟩) hP hD hS hA [2, 3] [0, 1, 4] rfl rfl rfl (by decide) (fun w1 H locs hp hP hD hS => ?_)
      obtain ⟨e_2, hq_3, rfl⟩ := hp
      have hq_3 : e_2 = gPt (upd f (13 + k) ((f (13 + k)) + 1)) k x (gVl pf (upd f (13 + k) ((f (13 + k)) + 1)) (n + 3) k) mode := hq_3
      have hge := hq_3
      have hWf := hge ▸ gOkW_pt (v := gVl pf (upd f (13 + k) ((f (13 + k)) + 1)) (n + 3) k) (mode := mode) hW1 (show k < 3 by omega) hx0
      refine lv_goto (tgt := 267) hx hb dX7_move_160 (by decide) ?_
      have hP := hP.sub (ws' := [(h0, .inr (7, [.ref a1])), (a1, .inl (cI, 34, .inl e_2)), (p0, .inr (4, [.int (nI nc), .ref b1, v2, .ref b3])), (b1, .inl (cI, 3, .inl (fun j => nI (L j)))), (b3, .inl (cI, 192, .inl pf))]) [3, 4, 0, 1, 2] rfl
      have hD := hD.sub (ws' := [(h0, .inr (7, [.ref a1])), (a1, .inl (cI, 34, .inl e_2)), (p0, .inr (4, [.int (nI nc), .ref b1, v2, .ref b3])), (b1, .inl (cI, 3, .inl (fun j => nI (L j)))), (b3, .inl (cI, 192, .inl pf))]) [3, 4, 0, 1, 2] (by decide) rfl
      exact gx_vret (w' := [(h0, .inr (7, [.ref a1])), (a1, .inl (cI, 34, .inl e_2)), (p0, .inr (4, [.int (nI nc), .ref b1, v2, .ref b3])), (b1, .inl (cI, 3, .inl (fun j => nI (L j)))), (b3, .inl (cI, 192, .inl pf))]) hx hb hr hlk hK hP hD hS (Nat.le_of_ble_eq_true rfl) (Nat.le_of_ble_eq_true rfl) dX7_move_267 ⟨e_2, hWf, (by (try rw [hge]); unfold gMK; rw [hq, nI_clamp (n := 1) (by omega)]; (try rw [er, nI_clamp (n := r) (by omega)]); (try rw [ex, nI_clamp (n := x) (by omega)]); (try rw [ey, nI_clamp (n := y) (by omega)]); (try unfold gMq); (try rw [hq]); (try unfold gF1); (try rw [if_neg hq_3]); (try rw [if_pos hq_3]); first | done | rfl), rfl⟩
    · refine lv_tableIn (off := 91) (tgt := 163) hx hb dX7_move_72 (by decide +kernel) (by decide +kernel) (by decide +kernel) (by decide) ?_
      obtain ⟨r, hr0, er⟩ := hgr (by decide) (by decide)
      refine lv_aload_n hx hb dX7_move_163 rfl (lv_at hl 4 rfl) ?_
      refine va_get (D := D) (ci := 7) (v := .ref a1) (C := RX7) (T := TX7) (N := 1) hx hb hts (fun _ h => List.mem_cons_of_mem _ (List.mem_append_left _ (List.mem_append_right _ h))) hown hK hP 3 rfl rfl 0 (by decide) (hts (.fieldLink RX7 11 "LitmusHall$State" "words" "[I") (by decide +kernel)) (fun _ h9 => h9) rfl dX7_move_164 ?_
      refine lv_iload hx hb dX7_move_167 (lv_at hl 0 rfl) ?_
      refine gx_top (y := nI ((k * 3) + r)) (by rw [er]; exact nI_add (k * 3) r) ?_
      refine lv_aload_n hx hb dX7_move_169 rfl (lv_at hl 4 rfl) ?_
      refine lv_aload hx hb dX7_move_170 (lv_at hl 3 rfl) ?_
      refine lv_iload hx hb dX7_move_172 (lv_at hl 2 rfl) ?_
      refine lv_iconst (v := 3) hx hb dX7_move_174 (by decide) ?_
      refine lv_iadd hx hb dX7_move_175 ?_
      refine gx_top (y := nI (n + 3)) (nI_add n 3) ?_
      refine lv_iload_n hx hb dX7_move_176 rfl (lv_at hl 6 rfl) ?_
      refine gx_goi (wc := [(h0, .inr (7, [.ref a1])), (a1, .inl (cI, 34, .inl (upd f (13 + k) ((f (13 + k)) + 1)))), (b3, .inl (cI, 192, .inl pf))]) (wr := [(p0, .inr (4, [.int (nI nc), .ref b1, v2, .ref b3])), (b1, .inl (cI, 3, .inl (fun j => nI (L j))))]) (va_runV (As := [.ref b3, .int (nI (n + 3)), .int (nI k)]) (rest := [.int (nI ((k * 3) + r)), .ref a1]) ⟨hx, hb, hml, hown, hts⟩ (e_valueOf l D cI cB cZ h0 a1 (upd f (13 + k) ((f (13 + k)) + 1)) b3 pf (n + 3) k (by omega) (by omega) h3 _) (cwV 3 hts gP_e_moveK__e_valueOf rfl rfl rfl (by decide +kernel) ⟨Nat.le_of_ble_eq_true rfl, Nat.le_of_ble_eq_true rfl⟩) (gx_preV (ci := 7) (q0 := 0) hK gN.nil hP hD [3, 4, 2] rfl rfl rfl rfl) rfl rfl hl.1 rfl (lv_room (Nat.le_of_ble_eq_true rfl)) dX7_move_177 ⟨Nat.le_of_ble_eq_true rfl, Nat.le_of_ble_eq_true rfl⟩) hP hD hS hA [3, 4, 2] [0, 1] rfl rfl rfl (by decide) (fun r1 w1 H locs hp hP hD hS => ?_)
      obtain ⟨h9, rfl⟩ := hp
      have h9 := h9.symm
      subst h9
      refine gy_ist (i := ((k * 3) + r)) hx hb hK hP hD hS 3 rfl (by omega) (by omega) dX7_move_180 (fun H locs hP hD hS => ?_)
      have hP : va_P D vwCl [(p0, .inr (4, [.int (nI nc), .ref b1, v2, .ref b3])), (b1, .inl (cI, 3, .inl (fun j => nI (L j)))), (h0, .inr (7, [.ref a1])), (a1, .inl (cI, 34, .inl (upd (upd f (13 + k) ((f (13 + k)) + 1)) ((k * 3) + r) (gVl pf (upd f (13 + k) ((f (13 + k)) + 1)) (n + 3) k)))), (b3, .inl (cI, 192, .inl pf))] H := hP
      have hD : va_D A [(p0, .inr (4, [.int (nI nc), .ref b1, v2, .ref b3])), (b1, .inl (cI, 3, .inl (fun j => nI (L j)))), (h0, .inr (7, [.ref a1])), (a1, .inl (cI, 34, .inl (upd (upd f (13 + k) ((f (13 + k)) + 1)) ((k * 3) + r) (gVl pf (upd f (13 + k) ((f (13 + k)) + 1)) (n + 3) k)))), (b3, .inl (cI, 192, .inl pf))] := hD
      have hWf := gOkW_out hW1 (i := (k * 3) + r) (x := gVl pf (upd f (13 + k) ((f (13 + k)) + 1)) (n + 3) k) (by omega)
      refine lv_goto (tgt := 267) hx hb dX7_move_181 (by decide) ?_
      have hP := hP.sub (ws' := [(h0, .inr (7, [.ref a1])), (a1, .inl (cI, 34, .inl (upd (upd f (13 + k) ((f (13 + k)) + 1)) ((k * 3) + r) (gVl pf (upd f (13 + k) ((f (13 + k)) + 1)) (n + 3) k)))), (p0, .inr (4, [.int (nI nc), .ref b1, v2, .ref b3])), (b1, .inl (cI, 3, .inl (fun j => nI (L j)))), (b3, .inl (cI, 192, .inl pf))]) [2, 3, 0, 1, 4] rfl
      have hD := hD.sub (ws' := [(h0, .inr (7, [.ref a1])), (a1, .inl (cI, 34, .inl (upd (upd f (13 + k) ((f (13 + k)) + 1)) ((k * 3) + r) (gVl pf (upd f (13 + k) ((f (13 + k)) + 1)) (n + 3) k)))), (p0, .inr (4, [.int (nI nc), .ref b1, v2, .ref b3])), (b1, .inl (cI, 3, .inl (fun j => nI (L j)))), (b3, .inl (cI, 192, .inl pf))]) [2, 3, 0, 1, 4] (by decide) rfl
      exact gx_vret (w' := [(h0, .inr (7, [.ref a1])), (a1, .inl (cI, 34, .inl (upd (upd f (13 + k) ((f (13 + k)) + 1)) ((k * 3) + r) (gVl pf (upd f (13 + k) ((f (13 + k)) + 1)) (n + 3) k)))), (p0, .inr (4, [.int (nI nc), .ref b1, v2, .ref b3])), (b1, .inl (cI, 3, .inl (fun j => nI (L j)))), (b3, .inl (cI, 192, .inl pf))]) hx hb hr hlk hK hP hD hS (Nat.le_of_ble_eq_true rfl) (Nat.le_of_ble_eq_true rfl) dX7_move_267 ⟨(upd (upd f (13 + k) ((f (13 + k)) + 1)) ((k * 3) + r) (gVl pf (upd f (13 + k) ((f (13 + k)) + 1)) (n + 3) k)), hWf, (by (try rw [hge]); unfold gMK; rw [hq, nI_clamp (n := 2) (by omega)]; (try rw [er, nI_clamp (n := r) (by omega)]); (try rw [ex, nI_clamp (n := x) (by omega)]); (try rw [ey, nI_clamp (n := y) (by omega)]); (try unfold gMq); (try rw [hq]); (try unfold gF1); (try rw [if_neg c_1]); (try rw [if_pos c_1]); first | done | rfl), rfl⟩
    · refine lv_tableIn (off := 112) (tgt := 184) hx hb dX7_move_72 (by decide +kernel) (by decide +kernel) (by decide +kernel) (by decide) ?_
      obtain ⟨r, hr0, er⟩ := hgr (by decide) (by decide)
      refine lv_aload_n hx hb dX7_move_184 rfl (lv_at hl 4 rfl) ?_
      refine va_get (D := D) (ci := 7) (v := .ref a1) (C := RX7) (T := TX7) (N := 1) hx hb hts (fun _ h => List.mem_cons_of_mem _ (List.mem_append_left _ (List.mem_append_right _ h))) hown hK hP 3 rfl rfl 0 (by decide) (hts (.fieldLink RX7 11 "LitmusHall$State" "words" "[I") (by decide +kernel)) (fun _ h9 => h9) rfl dX7_move_185 ?_
      refine lv_iload hx hb dX7_move_188 (lv_at hl 0 rfl) ?_
      refine gx_top (y := nI ((k * 3) + r)) (by rw [er]; exact nI_add (k * 3) r) ?_
      refine lv_dup2_11 hx hb dX7_move_190 rfl rfl ?_
      refine gy_ild (i := ((k * 3) + r)) hx hb hK hP 4 rfl (by omega) (by omega) dX7_move_191 ?_
      refine lv_aload_n hx hb dX7_move_192 rfl (lv_at hl 4 rfl) ?_
      refine lv_aload hx hb dX7_move_193 (lv_at hl 3 rfl) ?_
      refine lv_iload hx hb dX7_move_195 (lv_at hl 2 rfl) ?_
      refine lv_iconst (v := 3) hx hb dX7_move_197 (by decide) ?_
      refine lv_iadd hx hb dX7_move_198 ?_
      refine gx_top (y := nI (n + 3)) (nI_add n 3) ?_
      refine lv_iload_n hx hb dX7_move_199 rfl (lv_at hl 6 rfl) ?_
      refine gx_goi (wc := [(h0, .inr (7, [.ref a1])), (a1, .inl (cI, 34, .inl (upd f (13 + k) ((f (13 + k)) + 1)))), (b3, .inl (cI, 192, .inl pf))]) (wr := [(p0, .inr (4, [.int (nI nc), .ref b1, v2, .ref b3])), (b1, .inl (cI, 3, .inl (fun j => nI (L j))))]) (va_runV (As := [.ref b3, .int (nI (n + 3)), .int (nI k)]) (rest := [.int ((upd f (13 + k) ((f (13 + k)) + 1)) ((k * 3) + r)), .int (nI ((k * 3) + r)), .ref a1]) ⟨hx, hb, hml, hown, hts⟩ (e_valueOf l D cI cB cZ h0 a1 (upd f (13 + k) ((f (13 + k)) + 1)) b3 pf (n + 3) k (by omega) (by omega) h3 _) (cwV 3 hts gP_e_moveK__e_valueOf rfl rfl rfl (by decide +kernel) ⟨Nat.le_of_ble_eq_true rfl, Nat.le_of_ble_eq_true rfl⟩) (gx_preV (ci := 7) (q0 := 0) hK gN.nil hP hD [3, 4, 2] rfl rfl rfl rfl) rfl rfl hl.1 rfl (lv_room (Nat.le_of_ble_eq_true rfl)) dX7_move_200 ⟨Nat.le_of_ble_eq_true rfl, Nat.le_of_ble_eq_true rfl⟩) hP hD hS hA [3, 4, 2] [0, 1] rfl rfl rfl (by decide) (fun r1 w1 H locs hp hP hD hS => ?_)
      obtain ⟨h9, rfl⟩ := hp
      have h9 := h9.symm
      subst h9
      refine lv_iadd hx hb dX7_move_203 ?_
      refine gy_ist (i := ((k * 3) + r)) hx hb hK hP hD hS 3 rfl (by omega) (by omega) dX7_move_204 (fun H locs hP hD hS => ?_)
      have hP : va_P D vwCl [(p0, .inr (4, [.int (nI nc), .ref b1, v2, .ref b3])), (b1, .inl (cI, 3, .inl (fun j => nI (L j)))), (h0, .inr (7, [.ref a1])), (a1, .inl (cI, 34, .inl (upd (upd f (13 + k) ((f (13 + k)) + 1)) ((k * 3) + r) (((upd f (13 + k) ((f (13 + k)) + 1)) ((k * 3) + r)) + (gVl pf (upd f (13 + k) ((f (13 + k)) + 1)) (n + 3) k))))), (b3, .inl (cI, 192, .inl pf))] H := hP
      have hD : va_D A [(p0, .inr (4, [.int (nI nc), .ref b1, v2, .ref b3])), (b1, .inl (cI, 3, .inl (fun j => nI (L j)))), (h0, .inr (7, [.ref a1])), (a1, .inl (cI, 34, .inl (upd (upd f (13 + k) ((f (13 + k)) + 1)) ((k * 3) + r) (((upd f (13 + k) ((f (13 + k)) + 1)) ((k * 3) + r)) + (gVl pf (upd f (13 + k) ((f (13 + k)) + 1)) (n + 3) k))))), (b3, .inl (cI, 192, .inl pf))] := hD
      have hWf := gOkW_out hW1 (i := (k * 3) + r) (x := (upd f (13 + k) ((f (13 + k)) + 1)) ((k * 3) + r) + gVl pf (upd f (13 + k) ((f (13 + k)) + 1)) (n + 3) k) (by omega)
      refine lv_goto (tgt := 267) hx hb dX7_move_205 (by decide) ?_
      have hP := hP.sub (ws' := [(h0, .inr (7, [.ref a1])), (a1, .inl (cI, 34, .inl (upd (upd f (13 + k) ((f (13 + k)) + 1)) ((k * 3) + r) (((upd f (13 + k) ((f (13 + k)) + 1)) ((k * 3) + r)) + (gVl pf (upd f (13 + k) ((f (13 + k)) + 1)) (n + 3) k))))), (p0, .inr (4, [.int (nI nc), .ref b1, v2, .ref b3])), (b1, .inl (cI, 3, .inl (fun j => nI (L j)))), (b3, .inl (cI, 192, .inl pf))]) [2, 3, 0, 1, 4] rfl
      have hD := hD.sub (ws' := [(h0, .inr (7, [.ref a1])), (a1, .inl (cI, 34, .inl (upd (upd f (13 + k) ((f (13 + k)) + 1)) ((k * 3) + r) (((upd f (13 + k) ((f (13 + k)) + 1)) ((k * 3) + r)) + (gVl pf (upd f (13 + k) ((f (13 + k)) + 1)) (n + 3) k))))), (p0, .inr (4, [.int (nI nc), .ref b1, v2, .ref b3])), (b1, .inl (cI, 3, .inl (fun j => nI (L j)))), (b3, .inl (cI, 192, .inl pf))]) [2, 3, 0, 1, 4] (by decide) rfl
      exact gx_vret (w' := [(h0, .inr (7, [.ref a1])), (a1, .inl (cI, 34, .inl (upd (upd f (13 + k) ((f (13 + k)) + 1)) ((k * 3) + r) (((upd f (13 + k) ((f (13 + k)) + 1)) ((k * 3) + r)) + (gVl pf (upd f (13 + k) ((f (13 + k)) + 1)) (n + 3) k))))), (p0, .inr (4, [.int (nI nc), .ref b1, v2, .ref b3])), (b1, .inl (cI, 3, .inl (fun j => nI (L j)))), (b3, .inl (cI, 192, .inl pf))]) hx hb hr hlk hK hP hD hS (Nat.le_of_ble_eq_true rfl) (Nat.le_of_ble_eq_true rfl) dX7_move_267 ⟨(upd (upd f (13 + k) ((f (13 + k)) + 1)) ((k * 3) + r) (((upd f (13 + k) ((f (13 + k)) + 1)) ((k * 3) + r)) + (gVl pf (upd f (13 + k) ((f (13 + k)) + 1)) (n + 3) k))), hWf, (by (try rw [hge]); unfold gMK; rw [hq, nI_clamp (n := 3) (by omega)]; (try rw [er, nI_clamp (n := r) (by omega)]); (try rw [ex, nI_clamp (n := x) (by omega)]); (try rw [ey, nI_clamp (n := y) (by omega)]); (try unfold gMq); (try rw [hq]); (try unfold gF1); (try rw [if_neg c_1]); (try rw [if_pos c_1]); first | done | rfl), rfl⟩
    · refine lv_tableIn (off := 173) (tgt := 245) hx hb dX7_move_72 (by decide +kernel) (by decide +kernel) (by decide +kernel) (by decide) ?_
      refine lv_aload_n hx hb dX7_move_245 rfl (lv_at hl 4 rfl) ?_
      refine lv_iload_n hx hb dX7_move_246 rfl (lv_at hl 6 rfl) ?_
      refine gx_gov (wc := [(h0, .inr (7, [.ref a1])), (a1, .inl (cI, 34, .inl (upd f (13 + k) ((f (13 + k)) + 1))))]) (wr := [(p0, .inr (4, [.int (nI nc), .ref b1, v2, .ref b3])), (b1, .inl (cI, 3, .inl (fun j => nI (L j)))), (b3, .inl (cI, 192, .inl pf))]) (va_runV (As := [.int (nI k)]) (rest := []) ⟨hx, hb, hml, hown, hts⟩ (e_forgetStored l D cI cB cZ h0 a1 (upd f (13 + k) ((f (13 + k)) + 1)) k (by omega) _) (cwV 1 hts gP_e_moveK__e_forgetStored rfl rfl rfl (by decide +kernel) ⟨Nat.le_of_ble_eq_true rfl, Nat.le_of_ble_eq_true rfl⟩) (gx_preV (ci := 7) (q0 := 0) hK gN.nil hP hD [3, 4] rfl rfl rfl rfl) rfl rfl hl.1 rfl (lv_room (Nat.le_of_ble_eq_true rfl)) dX7_move_247 ⟨Nat.le_of_ble_eq_true rfl, Nat.le_of_ble_eq_true rfl⟩) hP hD hS hA [3, 4] [0, 1, 2] rfl rfl rfl (by decide) (fun w1 H locs hp hP hD hS => ?_)
      obtain ⟨rfl⟩ := hp
      have hWf := gOkW_fs hW1 (show k < 3 by omega)
      refine lv_goto (tgt := 267) hx hb dX7_move_250 (by decide) ?_
      have hP := hP.sub (ws' := [(h0, .inr (7, [.ref a1])), (a1, .inl (cI, 34, .inl (gFs (upd f (13 + k) ((f (13 + k)) + 1)) k))), (p0, .inr (4, [.int (nI nc), .ref b1, v2, .ref b3])), (b1, .inl (cI, 3, .inl (fun j => nI (L j)))), (b3, .inl (cI, 192, .inl pf))]) [3, 4, 0, 1, 2] rfl
      have hD := hD.sub (ws' := [(h0, .inr (7, [.ref a1])), (a1, .inl (cI, 34, .inl (gFs (upd f (13 + k) ((f (13 + k)) + 1)) k))), (p0, .inr (4, [.int (nI nc), .ref b1, v2, .ref b3])), (b1, .inl (cI, 3, .inl (fun j => nI (L j)))), (b3, .inl (cI, 192, .inl pf))]) [3, 4, 0, 1, 2] (by decide) rfl
      exact gx_vret (w' := [(h0, .inr (7, [.ref a1])), (a1, .inl (cI, 34, .inl (gFs (upd f (13 + k) ((f (13 + k)) + 1)) k))), (p0, .inr (4, [.int (nI nc), .ref b1, v2, .ref b3])), (b1, .inl (cI, 3, .inl (fun j => nI (L j)))), (b3, .inl (cI, 192, .inl pf))]) hx hb hr hlk hK hP hD hS (Nat.le_of_ble_eq_true rfl) (Nat.le_of_ble_eq_true rfl) dX7_move_267 ⟨(gFs (upd f (13 + k) ((f (13 + k)) + 1)) k), hWf, (by (try rw [hge]); unfold gMK; rw [hq, nI_clamp (n := 4) (by omega)]; (try rw [er, nI_clamp (n := r) (by omega)]); (try rw [ex, nI_clamp (n := x) (by omega)]); (try rw [ey, nI_clamp (n := y) (by omega)]); (try unfold gMq); (try rw [hq]); (try unfold gF1); (try rw [if_neg c_1]); (try rw [if_pos c_1]); first | done | rfl), rfl⟩
    · refine lv_tableIn (off := 181) (tgt := 253) hx hb dX7_move_72 (by decide +kernel) (by decide +kernel) (by decide +kernel) (by decide) ?_
      obtain ⟨r, hr0, er⟩ := hgr (by decide) (by decide)
      obtain ⟨x, hx0, ex⟩ := hgc (by decide) (by decide) (by decide) (by decide)
      refine lv_aload_n hx hb dX7_move_253 rfl (lv_at hl 4 rfl) ?_
      refine lv_aload hx hb dX7_move_254 (lv_at hl 3 rfl) ?_
      refine lv_iload hx hb dX7_move_256 (lv_at hl 2 rfl) ?_
      refine lv_iload_n hx hb dX7_move_258 rfl (lv_at hl 6 rfl) ?_
      refine gx_gov (wc := [(h0, .inr (7, [.ref a1])), (a1, .inl (cI, 34, .inl (upd f (13 + k) ((f (13 + k)) + 1)))), (b3, .inl (cI, 192, .inl pf))]) (wr := [(p0, .inr (4, [.int (nI nc), .ref b1, v2, .ref b3])), (b1, .inl (cI, 3, .inl (fun j => nI (L j))))]) (va_runV (As := [.ref b3, .int (nI n), .int (nI k)]) (rest := []) ⟨hx, hb, hml, hown, hts⟩ (e_lock l D cI cB cZ h0 a1 (upd f (13 + k) ((f (13 + k)) + 1)) b3 pf n k x r (by omega) (by omega) (by omega) (by omega) ex er h3 h5 _) (cwV 3 hts gP_e_moveK__e_lock rfl rfl rfl (by decide +kernel) ⟨Nat.le_of_ble_eq_true rfl, Nat.le_of_ble_eq_true rfl⟩) (gx_preV (ci := 7) (q0 := 0) hK gN.nil hP hD [3, 4, 2] rfl rfl rfl rfl) rfl rfl hl.1 rfl (lv_room (Nat.le_of_ble_eq_true rfl)) dX7_move_259 ⟨Nat.le_of_ble_eq_true rfl, Nat.le_of_ble_eq_true rfl⟩) hP hD hS hA [3, 4, 2] [0, 1] rfl rfl rfl (by decide) (fun w1 H locs hp hP hD hS => ?_)
      obtain ⟨e_4, hq_5, rfl⟩ := hp
      have hq_5 : e_4 = gLk (upd f (13 + k) ((f (13 + k)) + 1)) (9 + x) ((k * 3) + r) (pf (n + 0)) (gVl pf (upd f (13 + k) ((f (13 + k)) + 1)) (n + 3) k) (gVl pf (upd f (13 + k) ((f (13 + k)) + 1)) (n + 5) k) := hq_5
      have hge := hq_5
      have hWl := hge ▸ gOkW_lk (q := pf (n + 0)) (a := gVl pf (upd f (13 + k) ((f (13 + k)) + 1)) (n + 3) k) (b := gVl pf (upd f (13 + k) ((f (13 + k)) + 1)) (n + 5) k) hW1 (show 9 + x < 13 by omega) (show (k * 3) + r < 13 by omega)
      refine lv_aload_n hx hb dX7_move_262 rfl (lv_at hl 4 rfl) ?_
      refine lv_iload_n hx hb dX7_move_263 rfl (lv_at hl 6 rfl) ?_
      refine gx_gov (wc := [(h0, .inr (7, [.ref a1])), (a1, .inl (cI, 34, .inl e_4))]) (wr := [(p0, .inr (4, [.int (nI nc), .ref b1, v2, .ref b3])), (b1, .inl (cI, 3, .inl (fun j => nI (L j)))), (b3, .inl (cI, 192, .inl pf))]) (va_runV (As := [.int (nI k)]) (rest := []) ⟨hx, hb, hml, hown, hts⟩ (e_forgetStored l D cI cB cZ h0 a1 e_4 k (by omega) _) (cwV 1 hts gP_e_moveK__e_forgetStored rfl rfl rfl (by decide +kernel) ⟨Nat.le_of_ble_eq_true rfl, Nat.le_of_ble_eq_true rfl⟩) (gx_preV (ci := 7) (q0 := 0) hK gN.nil hP hD [2, 3] rfl rfl rfl rfl) rfl rfl hl.1 rfl (lv_room (Nat.le_of_ble_eq_true rfl)) dX7_move_264 ⟨Nat.le_of_ble_eq_true rfl, Nat.le_of_ble_eq_true rfl⟩) hP hD hS hA [2, 3] [0, 1, 4] rfl rfl rfl (by decide) (fun w1 H locs hp hP hD hS => ?_)
      obtain ⟨rfl⟩ := hp
      have hWf := gOkW_fs hWl (show k < 3 by omega)
      have hP := hP.sub (ws' := [(h0, .inr (7, [.ref a1])), (a1, .inl (cI, 34, .inl (gFs e_4 k))), (p0, .inr (4, [.int (nI nc), .ref b1, v2, .ref b3])), (b1, .inl (cI, 3, .inl (fun j => nI (L j)))), (b3, .inl (cI, 192, .inl pf))]) [3, 4, 0, 1, 2] rfl
      have hD := hD.sub (ws' := [(h0, .inr (7, [.ref a1])), (a1, .inl (cI, 34, .inl (gFs e_4 k))), (p0, .inr (4, [.int (nI nc), .ref b1, v2, .ref b3])), (b1, .inl (cI, 3, .inl (fun j => nI (L j)))), (b3, .inl (cI, 192, .inl pf))]) [3, 4, 0, 1, 2] (by decide) rfl
      exact gx_vret (w' := [(h0, .inr (7, [.ref a1])), (a1, .inl (cI, 34, .inl (gFs e_4 k))), (p0, .inr (4, [.int (nI nc), .ref b1, v2, .ref b3])), (b1, .inl (cI, 3, .inl (fun j => nI (L j)))), (b3, .inl (cI, 192, .inl pf))]) hx hb hr hlk hK hP hD hS (Nat.le_of_ble_eq_true rfl) (Nat.le_of_ble_eq_true rfl) dX7_move_267 ⟨(gFs e_4 k), hWf, (by (try rw [hge]); unfold gMK; rw [hq, nI_clamp (n := 5) (by omega)]; (try rw [er, nI_clamp (n := r) (by omega)]); (try rw [ex, nI_clamp (n := x) (by omega)]); (try rw [ey, nI_clamp (n := y) (by omega)]); (try unfold gMq); (try rw [hq]); (try unfold gF1); (try rw [if_neg hq_5]); (try rw [if_pos hq_5]); first | done | rfl), rfl⟩
    · refine lv_tableIn (off := 181) (tgt := 253) hx hb dX7_move_72 (by decide +kernel) (by decide +kernel) (by decide +kernel) (by decide) ?_
      obtain ⟨r, hr0, er⟩ := hgr (by decide) (by decide)
      obtain ⟨x, hx0, ex⟩ := hgc (by decide) (by decide) (by decide) (by decide)
      refine lv_aload_n hx hb dX7_move_253 rfl (lv_at hl 4 rfl) ?_
      refine lv_aload hx hb dX7_move_254 (lv_at hl 3 rfl) ?_
      refine lv_iload hx hb dX7_move_256 (lv_at hl 2 rfl) ?_
      refine lv_iload_n hx hb dX7_move_258 rfl (lv_at hl 6 rfl) ?_
      refine gx_gov (wc := [(h0, .inr (7, [.ref a1])), (a1, .inl (cI, 34, .inl (upd f (13 + k) ((f (13 + k)) + 1)))), (b3, .inl (cI, 192, .inl pf))]) (wr := [(p0, .inr (4, [.int (nI nc), .ref b1, v2, .ref b3])), (b1, .inl (cI, 3, .inl (fun j => nI (L j))))]) (va_runV (As := [.ref b3, .int (nI n), .int (nI k)]) (rest := []) ⟨hx, hb, hml, hown, hts⟩ (e_lock l D cI cB cZ h0 a1 (upd f (13 + k) ((f (13 + k)) + 1)) b3 pf n k x r (by omega) (by omega) (by omega) (by omega) ex er h3 h5 _) (cwV 3 hts gP_e_moveK__e_lock rfl rfl rfl (by decide +kernel) ⟨Nat.le_of_ble_eq_true rfl, Nat.le_of_ble_eq_true rfl⟩) (gx_preV (ci := 7) (q0 := 0) hK gN.nil hP hD [3, 4, 2] rfl rfl rfl rfl) rfl rfl hl.1 rfl (lv_room (Nat.le_of_ble_eq_true rfl)) dX7_move_259 ⟨Nat.le_of_ble_eq_true rfl, Nat.le_of_ble_eq_true rfl⟩) hP hD hS hA [3, 4, 2] [0, 1] rfl rfl rfl (by decide) (fun w1 H locs hp hP hD hS => ?_)
      obtain ⟨e_6, hq_7, rfl⟩ := hp
      have hq_7 : e_6 = gLk (upd f (13 + k) ((f (13 + k)) + 1)) (9 + x) ((k * 3) + r) (pf (n + 0)) (gVl pf (upd f (13 + k) ((f (13 + k)) + 1)) (n + 3) k) (gVl pf (upd f (13 + k) ((f (13 + k)) + 1)) (n + 5) k) := hq_7
      have hge := hq_7
      have hWl := hge ▸ gOkW_lk (q := pf (n + 0)) (a := gVl pf (upd f (13 + k) ((f (13 + k)) + 1)) (n + 3) k) (b := gVl pf (upd f (13 + k) ((f (13 + k)) + 1)) (n + 5) k) hW1 (show 9 + x < 13 by omega) (show (k * 3) + r < 13 by omega)
      refine lv_aload_n hx hb dX7_move_262 rfl (lv_at hl 4 rfl) ?_
      refine lv_iload_n hx hb dX7_move_263 rfl (lv_at hl 6 rfl) ?_
      refine gx_gov (wc := [(h0, .inr (7, [.ref a1])), (a1, .inl (cI, 34, .inl e_6))]) (wr := [(p0, .inr (4, [.int (nI nc), .ref b1, v2, .ref b3])), (b1, .inl (cI, 3, .inl (fun j => nI (L j)))), (b3, .inl (cI, 192, .inl pf))]) (va_runV (As := [.int (nI k)]) (rest := []) ⟨hx, hb, hml, hown, hts⟩ (e_forgetStored l D cI cB cZ h0 a1 e_6 k (by omega) _) (cwV 1 hts gP_e_moveK__e_forgetStored rfl rfl rfl (by decide +kernel) ⟨Nat.le_of_ble_eq_true rfl, Nat.le_of_ble_eq_true rfl⟩) (gx_preV (ci := 7) (q0 := 0) hK gN.nil hP hD [2, 3] rfl rfl rfl rfl) rfl rfl hl.1 rfl (lv_room (Nat.le_of_ble_eq_true rfl)) dX7_move_264 ⟨Nat.le_of_ble_eq_true rfl, Nat.le_of_ble_eq_true rfl⟩) hP hD hS hA [2, 3] [0, 1, 4] rfl rfl rfl (by decide) (fun w1 H locs hp hP hD hS => ?_)
      obtain ⟨rfl⟩ := hp
      have hWf := gOkW_fs hWl (show k < 3 by omega)
      have hP := hP.sub (ws' := [(h0, .inr (7, [.ref a1])), (a1, .inl (cI, 34, .inl (gFs e_6 k))), (p0, .inr (4, [.int (nI nc), .ref b1, v2, .ref b3])), (b1, .inl (cI, 3, .inl (fun j => nI (L j)))), (b3, .inl (cI, 192, .inl pf))]) [3, 4, 0, 1, 2] rfl
      have hD := hD.sub (ws' := [(h0, .inr (7, [.ref a1])), (a1, .inl (cI, 34, .inl (gFs e_6 k))), (p0, .inr (4, [.int (nI nc), .ref b1, v2, .ref b3])), (b1, .inl (cI, 3, .inl (fun j => nI (L j)))), (b3, .inl (cI, 192, .inl pf))]) [3, 4, 0, 1, 2] (by decide) rfl
      exact gx_vret (w' := [(h0, .inr (7, [.ref a1])), (a1, .inl (cI, 34, .inl (gFs e_6 k))), (p0, .inr (4, [.int (nI nc), .ref b1, v2, .ref b3])), (b1, .inl (cI, 3, .inl (fun j => nI (L j)))), (b3, .inl (cI, 192, .inl pf))]) hx hb hr hlk hK hP hD hS (Nat.le_of_ble_eq_true rfl) (Nat.le_of_ble_eq_true rfl) dX7_move_267 ⟨(gFs e_6 k), hWf, (by (try rw [hge]); unfold gMK; rw [hq, nI_clamp (n := 6) (by omega)]; (try rw [er, nI_clamp (n := r) (by omega)]); (try rw [ex, nI_clamp (n := x) (by omega)]); (try rw [ey, nI_clamp (n := y) (by omega)]); (try unfold gMq); (try rw [hq]); (try unfold gF1); (try rw [if_neg hq_7]); (try rw [if_pos hq_7]); first | done | rfl), rfl⟩
    · refine lv_tableIn (off := 181) (tgt := 253) hx hb dX7_move_72 (by decide +kernel) (by decide +kernel) (by decide +kernel) (by decide) ?_
      obtain ⟨r, hr0, er⟩ := hgr (by decide) (by decide)
      obtain ⟨x, hx0, ex⟩ := hgc (by decide) (by decide) (by decide) (by decide)
      refine lv_aload_n hx hb dX7_move_253 rfl (lv_at hl 4 rfl) ?_
      refine lv_aload hx hb dX7_move_254 (lv_at hl 3 rfl) ?_
      refine lv_iload hx hb dX7_move_256 (lv_at hl 2 rfl) ?_
      refine lv_iload_n hx hb dX7_move_258 rfl (lv_at hl 6 rfl) ?_
      refine gx_gov (wc := [(h0, .inr (7, [.ref a1])), (a1, .inl (cI, 34, .inl (upd f (13 + k) ((f (13 + k)) + 1)))), (b3, .inl (cI, 192, .inl pf))]) (wr := [(p0, .inr (4, [.int (nI nc), .ref b1, v2, .ref b3])), (b1, .inl (cI, 3, .inl (fun j => nI (L j))))]) (va_runV (As := [.ref b3, .int (nI n), .int (nI k)]) (rest := []) ⟨hx, hb, hml, hown, hts⟩ (e_lock l D cI cB cZ h0 a1 (upd f (13 + k) ((f (13 + k)) + 1)) b3 pf n k x r (by omega) (by omega) (by omega) (by omega) ex er h3 h5 _) (cwV 3 hts gP_e_moveK__e_lock rfl rfl rfl (by decide +kernel) ⟨Nat.le_of_ble_eq_true rfl, Nat.le_of_ble_eq_true rfl⟩) (gx_preV (ci := 7) (q0 := 0) hK gN.nil hP hD [3, 4, 2] rfl rfl rfl rfl) rfl rfl hl.1 rfl (lv_room (Nat.le_of_ble_eq_true rfl)) dX7_move_259 ⟨Nat.le_of_ble_eq_true rfl, Nat.le_of_ble_eq_true rfl⟩) hP hD hS hA [3, 4, 2] [0, 1] rfl rfl rfl (by decide) (fun w1 H locs hp hP hD hS => ?_)
      obtain ⟨e_8, hq_9, rfl⟩ := hp
      have hq_9 : e_8 = gLk (upd f (13 + k) ((f (13 + k)) + 1)) (9 + x) ((k * 3) + r) (pf (n + 0)) (gVl pf (upd f (13 + k) ((f (13 + k)) + 1)) (n + 3) k) (gVl pf (upd f (13 + k) ((f (13 + k)) + 1)) (n + 5) k) := hq_9
      have hge := hq_9
      have hWl := hge ▸ gOkW_lk (q := pf (n + 0)) (a := gVl pf (upd f (13 + k) ((f (13 + k)) + 1)) (n + 3) k) (b := gVl pf (upd f (13 + k) ((f (13 + k)) + 1)) (n + 5) k) hW1 (show 9 + x < 13 by omega) (show (k * 3) + r < 13 by omega)
      refine lv_aload_n hx hb dX7_move_262 rfl (lv_at hl 4 rfl) ?_
      refine lv_iload_n hx hb dX7_move_263 rfl (lv_at hl 6 rfl) ?_
      refine gx_gov (wc := [(h0, .inr (7, [.ref a1])), (a1, .inl (cI, 34, .inl e_8))]) (wr := [(p0, .inr (4, [.int (nI nc), .ref b1, v2, .ref b3])), (b1, .inl (cI, 3, .inl (fun j => nI (L j)))), (b3, .inl (cI, 192, .inl pf))]) (va_runV (As := [.int (nI k)]) (rest := []) ⟨hx, hb, hml, hown, hts⟩ (e_forgetStored l D cI cB cZ h0 a1 e_8 k (by omega) _) (cwV 1 hts gP_e_moveK__e_forgetStored rfl rfl rfl (by decide +kernel) ⟨Nat.le_of_ble_eq_true rfl, Nat.le_of_ble_eq_true rfl⟩) (gx_preV (ci := 7) (q0 := 0) hK gN.nil hP hD [2, 3] rfl rfl rfl rfl) rfl rfl hl.1 rfl (lv_room (Nat.le_of_ble_eq_true rfl)) dX7_move_264 ⟨Nat.le_of_ble_eq_true rfl, Nat.le_of_ble_eq_true rfl⟩) hP hD hS hA [2, 3] [0, 1, 4] rfl rfl rfl (by decide) (fun w1 H locs hp hP hD hS => ?_)
      obtain ⟨rfl⟩ := hp
      have hWf := gOkW_fs hWl (show k < 3 by omega)
      have hP := hP.sub (ws' := [(h0, .inr (7, [.ref a1])), (a1, .inl (cI, 34, .inl (gFs e_8 k))), (p0, .inr (4, [.int (nI nc), .ref b1, v2, .ref b3])), (b1, .inl (cI, 3, .inl (fun j => nI (L j)))), (b3, .inl (cI, 192, .inl pf))]) [3, 4, 0, 1, 2] rfl
      have hD := hD.sub (ws' := [(h0, .inr (7, [.ref a1])), (a1, .inl (cI, 34, .inl (gFs e_8 k))), (p0, .inr (4, [.int (nI nc), .ref b1, v2, .ref b3])), (b1, .inl (cI, 3, .inl (fun j => nI (L j)))), (b3, .inl (cI, 192, .inl pf))]) [3, 4, 0, 1, 2] (by decide) rfl
      exact gx_vret (w' := [(h0, .inr (7, [.ref a1])), (a1, .inl (cI, 34, .inl (gFs e_8 k))), (p0, .inr (4, [.int (nI nc), .ref b1, v2, .ref b3])), (b1, .inl (cI, 3, .inl (fun j => nI (L j)))), (b3, .inl (cI, 192, .inl pf))]) hx hb hr hlk hK hP hD hS (Nat.le_of_ble_eq_true rfl) (Nat.le_of_ble_eq_true rfl) dX7_move_267 ⟨(gFs e_8 k), hWf, (by (try rw [hge]); unfold gMK; rw [hq, nI_clamp (n := 7) (by omega)]; (try rw [er, nI_clamp (n := r) (by omega)]); (try rw [ex, nI_clamp (n := x) (by omega)]); (try rw [ey, nI_clamp (n := y) (by omega)]); (try unfold gMq); (try rw [hq]); (try unfold gF1); (try rw [if_neg hq_9]); (try rw [if_pos hq_9]); first | done | rfl), rfl⟩
    · refine lv_tableIn (off := 136) (tgt := 208) hx hb dX7_move_72 (by decide +kernel) (by decide +kernel) (by decide +kernel) (by decide) ?_
      obtain ⟨r, hr0, er⟩ := hgr (by decide) (by decide)
      obtain ⟨y, hy0, ey⟩ := hgs rfl
      refine lv_aload_n hx hb dX7_move_208 rfl (lv_at hl 4 rfl) ?_
      refine va_get (D := D) (ci := 7) (v := .ref a1) (C := RX7) (T := TX7) (N := 1) hx hb hts (fun _ h => List.mem_cons_of_mem _ (List.mem_append_left _ (List.mem_append_right _ h))) hown hK hP 3 rfl rfl 0 (by decide) (hts (.fieldLink RX7 11 "LitmusHall$State" "words" "[I") (by decide +kernel)) (fun _ h9 => h9) rfl dX7_move_209 ?_
      refine lv_bipush (v := 13) hx hb dX7_move_212 (by decide) ?_
      refine lv_iload_n hx hb dX7_move_214 rfl (lv_at hl 6 rfl) ?_
      refine lv_iadd hx hb dX7_move_215 ?_
      refine gx_top (y := nI (13 + k)) (nI_add 13 k) ?_
      refine lv_dup2_11 hx hb dX7_move_216 rfl rfl ?_
      refine gy_ild (i := (13 + k)) hx hb hK hP 4 rfl (by omega) (by omega) dX7_move_217 ?_
      refine lv_aload_n hx hb dX7_move_218 rfl (lv_at hl 4 rfl) ?_
      refine va_get (D := D) (ci := 7) (v := .ref a1) (C := RX7) (T := TX7) (N := 1) hx hb hts (fun _ h => List.mem_cons_of_mem _ (List.mem_append_left _ (List.mem_append_right _ h))) hown hK hP 3 rfl rfl 0 (by decide) (hts (.fieldLink RX7 11 "LitmusHall$State" "words" "[I") (by decide +kernel)) (fun _ h9 => h9) rfl dX7_move_219 ?_
      refine lv_iload hx hb dX7_move_222 (lv_at hl 0 rfl) ?_
      refine gx_top (y := nI ((k * 3) + r)) (by rw [er]; exact nI_add (k * 3) r) ?_
      refine gy_ild (i := ((k * 3) + r)) hx hb hK hP 4 rfl (by omega) (by omega) dX7_move_224 ?_
      refine lv_if_eq (tgt := 239) hx hb dX7_move_225 (by decide) (fun c_10 => ?_) (fun c_10 => ?_)
      · refine lv_iconst (v := 0) hx hb dX7_move_239 (by decide) ?_
        refine lv_iadd hx hb dX7_move_240 ?_
        refine gy_ist (i := (13 + k)) hx hb hK hP hD hS 4 rfl (by omega) (by omega) dX7_move_241 (fun H locs hP hD hS => ?_)
        have hP : va_P D vwCl [(p0, .inr (4, [.int (nI nc), .ref b1, v2, .ref b3])), (b1, .inl (cI, 3, .inl (fun j => nI (L j)))), (b3, .inl (cI, 192, .inl pf)), (h0, .inr (7, [.ref a1])), (a1, .inl (cI, 34, .inl (upd (upd f (13 + k) ((f (13 + k)) + 1)) (13 + k) (((upd f (13 + k) ((f (13 + k)) + 1)) (13 + k)) + 0))))] H := hP
        have hD : va_D A [(p0, .inr (4, [.int (nI nc), .ref b1, v2, .ref b3])), (b1, .inl (cI, 3, .inl (fun j => nI (L j)))), (b3, .inl (cI, 192, .inl pf)), (h0, .inr (7, [.ref a1])), (a1, .inl (cI, 34, .inl (upd (upd f (13 + k) ((f (13 + k)) + 1)) (13 + k) (((upd f (13 + k) ((f (13 + k)) + 1)) (13 + k)) + 0))))] := hD
        have hWf := gOkW_in' hW1 (k0 := k) (x := (((upd f (13 + k) ((f (13 + k)) + 1)) (13 + k)) + 0)) (by rw [pk_us]; exact gLo_inc2 (y := 0) (gOkW_lo hW (by omega)) hi (by omega))
        refine lv_goto (tgt := 267) hx hb dX7_move_242 (by decide) ?_
        have hP := hP.sub (ws' := [(h0, .inr (7, [.ref a1])), (a1, .inl (cI, 34, .inl (upd (upd f (13 + k) ((f (13 + k)) + 1)) (13 + k) (((upd f (13 + k) ((f (13 + k)) + 1)) (13 + k)) + 0)))), (p0, .inr (4, [.int (nI nc), .ref b1, v2, .ref b3])), (b1, .inl (cI, 3, .inl (fun j => nI (L j)))), (b3, .inl (cI, 192, .inl pf))]) [3, 4, 0, 1, 2] rfl
        have hD := hD.sub (ws' := [(h0, .inr (7, [.ref a1])), (a1, .inl (cI, 34, .inl (upd (upd f (13 + k) ((f (13 + k)) + 1)) (13 + k) (((upd f (13 + k) ((f (13 + k)) + 1)) (13 + k)) + 0)))), (p0, .inr (4, [.int (nI nc), .ref b1, v2, .ref b3])), (b1, .inl (cI, 3, .inl (fun j => nI (L j)))), (b3, .inl (cI, 192, .inl pf))]) [3, 4, 0, 1, 2] (by decide) rfl
        exact gx_vret (w' := [(h0, .inr (7, [.ref a1])), (a1, .inl (cI, 34, .inl (upd (upd f (13 + k) ((f (13 + k)) + 1)) (13 + k) (((upd f (13 + k) ((f (13 + k)) + 1)) (13 + k)) + 0)))), (p0, .inr (4, [.int (nI nc), .ref b1, v2, .ref b3])), (b1, .inl (cI, 3, .inl (fun j => nI (L j)))), (b3, .inl (cI, 192, .inl pf))]) hx hb hr hlk hK hP hD hS (Nat.le_of_ble_eq_true rfl) (Nat.le_of_ble_eq_true rfl) dX7_move_267 ⟨(upd (upd f (13 + k) ((f (13 + k)) + 1)) (13 + k) (((upd f (13 + k) ((f (13 + k)) + 1)) (13 + k)) + 0)), hWf, (by (try rw [hge]); unfold gMK; rw [hq, nI_clamp (n := 8) (by omega)]; (try rw [er, nI_clamp (n := r) (by omega)]); (try rw [ex, nI_clamp (n := x) (by omega)]); (try rw [ey, nI_clamp (n := y) (by omega)]); (try unfold gMq); (try rw [hq]); (try unfold gF1); (try rw [if_neg c_10]); (try rw [if_pos c_10]); first | done | rfl), rfl⟩
      · refine lv_aload hx hb dX7_move_228 (lv_at hl 3 rfl) ?_
        refine lv_iload hx hb dX7_move_230 (lv_at hl 2 rfl) ?_
        refine lv_bipush (v := 7) hx hb dX7_move_232 (by decide) ?_
        refine lv_iadd hx hb dX7_move_234 ?_
        refine gx_top (y := nI (n + 7)) (nI_add n 7) ?_
        refine gy_ild (i := (n + 7)) hx hb hK hP 2 rfl (by omega) (by omega) dX7_move_235 ?_
        refine gx_top (y := nI y) ey ?_
        refine lv_goto (tgt := 240) hx hb dX7_move_236 (by decide) ?_
        refine lv_iadd hx hb dX7_move_240 ?_
        refine gy_ist (i := (13 + k)) hx hb hK hP hD hS 4 rfl (by omega) (by omega) dX7_move_241 (fun H locs hP hD hS => ?_)
        have hP : va_P D vwCl [(p0, .inr (4, [.int (nI nc), .ref b1, v2, .ref b3])), (b1, .inl (cI, 3, .inl (fun j => nI (L j)))), (b3, .inl (cI, 192, .inl pf)), (h0, .inr (7, [.ref a1])), (a1, .inl (cI, 34, .inl (upd (upd f (13 + k) ((f (13 + k)) + 1)) (13 + k) (((upd f (13 + k) ((f (13 + k)) + 1)) (13 + k)) + (nI y)))))] H := hP
        have hD : va_D A [(p0, .inr (4, [.int (nI nc), .ref b1, v2, .ref b3])), (b1, .inl (cI, 3, .inl (fun j => nI (L j)))), (b3, .inl (cI, 192, .inl pf)), (h0, .inr (7, [.ref a1])), (a1, .inl (cI, 34, .inl (upd (upd f (13 + k) ((f (13 + k)) + 1)) (13 + k) (((upd f (13 + k) ((f (13 + k)) + 1)) (13 + k)) + (nI y)))))] := hD
        have hWf := gOkW_in' hW1 (k0 := k) (x := (((upd f (13 + k) ((f (13 + k)) + 1)) (13 + k)) + (nI y))) (by rw [pk_us]; exact gLo_inc2 (y := y) (gOkW_lo hW (by omega)) hi (by omega))
        refine lv_goto (tgt := 267) hx hb dX7_move_242 (by decide) ?_
        have hP := hP.sub (ws' := [(h0, .inr (7, [.ref a1])), (a1, .inl (cI, 34, .inl (upd (upd f (13 + k) ((f (13 + k)) + 1)) (13 + k) (((upd f (13 + k) ((f (13 + k)) + 1)) (13 + k)) + (nI y))))), (p0, .inr (4, [.int (nI nc), .ref b1, v2, .ref b3])), (b1, .inl (cI, 3, .inl (fun j => nI (L j)))), (b3, .inl (cI, 192, .inl pf))]) [3, 4, 0, 1, 2] rfl
        have hD := hD.sub (ws' := [(h0, .inr (7, [.ref a1])), (a1, .inl (cI, 34, .inl (upd (upd f (13 + k) ((f (13 + k)) + 1)) (13 + k) (((upd f (13 + k) ((f (13 + k)) + 1)) (13 + k)) + (nI y))))), (p0, .inr (4, [.int (nI nc), .ref b1, v2, .ref b3])), (b1, .inl (cI, 3, .inl (fun j => nI (L j)))), (b3, .inl (cI, 192, .inl pf))]) [3, 4, 0, 1, 2] (by decide) rfl
        exact gx_vret (w' := [(h0, .inr (7, [.ref a1])), (a1, .inl (cI, 34, .inl (upd (upd f (13 + k) ((f (13 + k)) + 1)) (13 + k) (((upd f (13 + k) ((f (13 + k)) + 1)) (13 + k)) + (nI y))))), (p0, .inr (4, [.int (nI nc), .ref b1, v2, .ref b3])), (b1, .inl (cI, 3, .inl (fun j => nI (L j)))), (b3, .inl (cI, 192, .inl pf))]) hx hb hr hlk hK hP hD hS (Nat.le_of_ble_eq_true rfl) (Nat.le_of_ble_eq_true rfl) dX7_move_267 ⟨(upd (upd f (13 + k) ((f (13 + k)) + 1)) (13 + k) (((upd f (13 + k) ((f (13 + k)) + 1)) (13 + k)) + (nI y))), hWf, (by (try rw [hge]); unfold gMK; rw [hq, nI_clamp (n := 8) (by omega)]; (try rw [er, nI_clamp (n := r) (by omega)]); (try rw [ex, nI_clamp (n := x) (by omega)]); (try rw [ey, nI_clamp (n := y) (by omega)]); (try unfold gMq); (try rw [hq]); (try unfold gF1); (try rw [if_neg c_10]); (try rw [if_pos c_10]); first | done | rfl), rfl⟩
  · exfalso; omega
