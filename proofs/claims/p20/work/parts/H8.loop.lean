-- ===== end of PART A; then your names; then what follows =====
/-! THE CLAIM OUT OF ONE WALK OF THE LAW'S BODY. Your part is whole_start (and what it stands on); all else here is the same for every law, but numbers. -/
def R_law : String := "LitmusHallLaw"
def lw_P (b : Addr) (xs : List Int32) (args : Array Value) (s : State) : Prop := args = #[.ref b] ∧ s.IntsAt b xs ∧ xs.length ≤ 3072 ∧ (Jvm.Cond.and given_1 narrow_1).before args s = true
def lw_Q (_ : Array Value) (s : State) (o : Outcome) (t : State) : Prop := o = .returned (some (.int 1)) ∧ Framed s o t [] 600000 7302250
def lw_Z (below : List Frame) (a : Array Value) (s : State) : State → Prop := fun t => ∃ o, t.status = .running ∧ Ended t below o ∧ lw_Q a s o t
/-- the law's own end, with 1 on the stack, nothing written that was there before, its room as the claim has it -/
theorem lw_ret {p : Program} {l : Launch} {e : Env} {s : State} {m : MethodId} {below : List Frame} {meth : Method} {c : Code} {b : Nat} (hx : p.tables.exec = Jvm.exec) (hb : c.code = code) (hr : meth.sig.returnType = ret) (hlocks : meth.locks = false) {pc : Nat} {H : Heap} {ls : Array Slot} (hdg : decode code pc = .ok (.ireturn, 1)) : W p l e room_1 s m #[Value.ref b] below meth c H [] 600000 7302250 (lw_Z below #[Value.ref b] s) (F0 m pc ls [.int 1]) := by
  intro T hT X
  obtain ⟨fs, hret, hrun, hended, hW, hframe⟩ := X.leave (v := some (.int 1)) (hlocks := hlocks) (fun h => by rw [hr] at h; cases h)
  have hmeth' : T.vm.method? m = some meth := X.method'
  refine ⟨T.setFrames fs, ?_, .returned (some (.int 1)), hrun, hended, rfl, ⟨_, rfl⟩, hW, hframe⟩
  jvm_step X.here [X.here.top, hx, hb, hdg, hmeth', hr, ret, narrow_b1]
  (try refine ⟨rfl, ?_⟩); (try refine ⟨rfl, ?_⟩)
  first | (intro acts; rw [hret _ acts rfl rfl rfl]) | rw [hret _ _ rfl rfl rfl]
  exact Steps.refl _
/-- what holds at the law's entry: the machine, the code, the tables' words (any of lw_tbl by 'hts w (by decide +kernel)'), the script of L ints xs at the cell b, what the Statement gives of the start (any of its parts by flat_of_before) -/
def lw_At (p : Program) (s : State) (m : MethodId) (meth : Method) (c : Code) (b L : Nat) (xs : Nat → Int32) : Prop :=
  p.tables.exec = Jvm.exec ∧ c.code = code ∧ meth.sig.returnType = ret ∧ c.maxLocals = 4 ∧ s.vm.findClass R_law = some m.cls ∧ (∀ w ∈ lw_tbl, w.before #[Value.ref b] s = true) ∧ va_X b L xs s s.heap ∧ b < s.heap.size ∧ meth.locks = false ∧ (Jvm.Cond.and given_1 narrow_1).before #[Value.ref b] s = true

set_option maxHeartbeats 4000000 in
theorem law_loop {p : Program} {l : Launch} {e : Env} {s : State} {m : MethodId} {below : List Frame} {meth : Method} {c : Code} {b L : Nat} {xs : Nat → Int32} (C0 : lw_At p s m meth c b L xs) (hL : L ≤ 3072) {D : va_G} {cI cB cZ : ClassId} {K : gKS} (G : gL p s m c b (fun q : Nat => s.heap.size ≤ q) D cI cB cZ K) {x0 y0 : Nat} {H : Heap} {locs : List Loc} {ls : Array Slot} {w8 w9 : va_W} {tz kc ns : Nat} {f : Nat → Int32} {fp ld : Int32} {nc : Nat} {Lv : Nat → Nat} {cf : Nat → Int32} {pf : Nat → Int32} {vst : Int32} {vk : Nat} {vm : Int32} {vd : Nat → Int32} (h8 : HallI cI cB cZ x0 w8 tz f fp ld nc Lv cf pf vst vk vm vd kc ns) (h9 : ModelI cI cB cZ y0 w9 tz f fp ld nc Lv cf pf vst vk vm vd) (hP : va_P D vwCl (w8 ++ w9) H) (hD : va_D (fun q : Nat => s.heap.size ≤ q) (w8 ++ w9)) (hS : va_S (fun q : Nat => s.heap.size ≤ q) s.heap H locs) (hl : lv_has ls 4 [(3, .int (nI 0)), (2, .ref y0), (1, .ref x0), (0, .ref b)]) : W p l e room_1 s m #[Value.ref b] below meth c H locs kc ns (lw_Z below #[Value.ref b] s) (F0 m 18 ls []) := by
  obtain ⟨_, _, hr, _, _, _, hX, hbl, hlocks, _⟩ := id C0
  obtain ⟨hx, hb, -⟩ := id G
  have hbA : ¬ (fun q : Nat => s.heap.size ≤ q) b := Nat.not_le.mpr hbl
  refine gy_loop (I := fun (x9 : Nat × Nat × Nat) H locs ls => x9.1 ≤ 4000 ∧ ∃ (w8 w9 : va_W) (tz : Nat) (f : Nat → Int32) (fp ld : Int32) (nc : Nat) (Lv : Nat → Nat) (cf : Nat → Int32) (pf : Nat → Int32) (vst : Int32) (vk : Nat) (vm : Int32) (vd : Nat → Int32), HallI cI cB cZ x0 w8 tz f fp ld nc Lv cf pf vst vk vm vd x9.2.1 x9.2.2 ∧ ModelI cI cB cZ y0 w9 tz f fp ld nc Lv cf pf vst vk vm vd ∧ va_P D vwCl (w8 ++ w9) H ∧ va_D (fun q : Nat => s.heap.size ≤ q) (w8 ++ w9) ∧ va_S (fun q : Nat => s.heap.size ≤ q) s.heap H locs ∧ lv_has ls 4 [(3, .int (nI x9.1)), (2, .ref y0), (1, .ref x0), (0, .ref b)]) (μ := fun (x9 : Nat × Nat × Nat) => 5000 - x9.1) (k := fun x9 => x9.2.1) (n := fun x9 => x9.2.2) (fun x9 H locs ls hI ih => ?_) (0, kc, ns) ⟨Nat.zero_le _, w8, w9, tz, f, fp, ld, nc, Lv, cf, pf, vst, vk, vm, vd, h8, h9, hP, hD, hS, hl⟩
  obtain ⟨i, kc, ns⟩ := x9
  obtain ⟨hi4, w8, w9, tz, f, fp, ld, nc, Lv, cf, pf, vst, vk, vm, vd, h8, h9, hP, hD, hS, hl⟩ := hI
  have hi4 : i ≤ 4000 := hi4
  have h8 : HallI cI cB cZ x0 w8 tz f fp ld nc Lv cf pf vst vk vm vd kc ns := h8
  have hl : lv_has ls 4 [(3, .int (nI i)), (2, .ref y0), (1, .ref x0), (0, .ref b)] := hl
  show W p l e room_1 s m #[Value.ref b] below meth c H locs kc ns (lw_Z below #[Value.ref b] s) (F0 m 18 ls [])
  have hle := Hall_le h8
  have fin : W p l e room_1 s m #[Value.ref b] below meth c H locs kc ns (lw_Z below #[Value.ref b] s) (F0 m 711 ls []) := by
    refine lv_iconst (v := 1) hx hb dL_law_711 (by decide) ?_
    refine va_forget (fun q hq => hS.2.2 q hq) ?_
    refine W.widen (k := 600000) (n := 7302250) (Nat.le_trans hle.1 (by decide)) (Nat.le_trans hle.2.1 (by decide)) ?_
    exact lw_ret hx hb hr hlocks dL_law_712
  refine lv_iload_n hx hb dL_law_18 rfl (lv_at hl 0 rfl) ?_
  refine lv_aload_n hx hb dL_law_19 rfl (lv_at hl 3 rfl) ?_
  refine va_slen hx hb hX hbl hbA hS dL_law_20 ?_
  refine gx_top (y := nI L) rfl ?_
  refine lv_bipush (v := 6) hx hb dL_law_21 (by decide) ?_
  refine lv_isub hx hb dL_law_23 ?_
  by_cases hL6 : 6 ≤ L
  · refine gx_top (y := nI (L - 6)) (pk_sub (a := L) (b := 6) hL6) ?_
    refine gy_gt (a := i) (b := L - 6) (tgt := 711) hx hb (by omega) (by omega) dL_law_24 (by decide) (fun _ => fin) (fun hgo => ?_)
    have hi6 : i + 6 ≤ L := by omega
    have nxt : ∀ (w8' w9' : va_W) (tz9 : Nat) (f9 : Nat → Int32) (fp9 ld9 : Int32) (nc9 : Nat) (Lv9 : Nat → Nat) (cf9 : Nat → Int32) (pf9 : Nat → Int32) (vst9 : Int32) (vk9 : Nat) (vm9 : Int32) (vd9 : Nat → Int32) (kc9 ns9 : Nat) (H1 : Heap) (locs1 : List Loc), HallI cI cB cZ x0 w8' tz9 f9 fp9 ld9 nc9 Lv9 cf9 pf9 vst9 vk9 vm9 vd9 kc9 ns9 → ModelI cI cB cZ y0 w9' tz9 f9 fp9 ld9 nc9 Lv9 cf9 pf9 vst9 vk9 vm9 vd9 → va_P D vwCl (w8' ++ w9') H1 → va_D (fun q : Nat => s.heap.size ≤ q) (w8' ++ w9') → va_S (fun q : Nat => s.heap.size ≤ q) s.heap H1 locs1 → W p l e room_1 s m #[Value.ref b] below meth c H1 locs1 kc9 ns9 (lw_Z below #[Value.ref b] s) (F0 m 705 ls []) := by
      intro w8' w9' tz9 f9 fp9 ld9 nc9 Lv9 cf9 pf9 vst9 vk9 vm9 vd9 kc9 ns9 H1 locs1 h8 h9 hP hD hS
      refine lv_iinc (v := nI (i + 6)) (lv' := [(3, .int (nI (i + 6))), (2, .ref y0), (1, .ref x0), (0, .ref b)]) hx hb dL_law_705 hl (k := 0) rfl (nI_add i 6) (by decide) rfl (fun ls hl => ?_)
      refine lv_goto (tgt := 18) hx hb dL_law_708 (by decide) ?_
      exact ih (i + 6, kc9, ns9) H1 locs1 ls ⟨by show i + 6 ≤ 4000; omega, w8', w9', tz9, f9, fp9, ld9, nc9, Lv9, cf9, pf9, vst9, vk9, vm9, vd9, h8, h9, hP, hD, hS, hl⟩ (by show 5000 - (i + 6) < 5000 - i; omega)
    refine lv_aload_n hx hb dL_law_27 rfl (lv_at hl 3 rfl) ?_
    refine lv_iload_n hx hb dL_law_28 rfl (lv_at hl 0 rfl) ?_
    refine va_sld hx hb hX hbl hbA hS (ge_vi (by omega) (by omega)) dL_law_29 ?_
    refine lv_bipush (v := 31) hx hb dL_law_30 (by decide) ?_
    refine lv_iand hx hb dL_law_32 ?_
    obtain ⟨j, hj, ej⟩ := pk_andE (xs (nI i).toNatClampNeg) (m := 31) 5 (by decide +kernel)
    refine gx_top (y := nI j) ej ?_
    rcases (show j = 0 ∨ j = 1 ∨ j = 2 ∨ j = 3 ∨ j = 4 ∨ j = 5 ∨ j = 6 ∨ j = 7 ∨ j = 8 ∨ j = 9 ∨ j = 10 ∨ j = 11 ∨ j = 12 ∨ j = 13 ∨ j = 14 ∨ j = 15 ∨ j = 16 ∨ j = 17 ∨ j = 18 ∨ j = 19 ∨ j = 20 ∨ j = 21 ∨ j = 22 ∨ j = 23 ∨ j = 24 ∨ j = 25 ∨ j = 26 ∨ j = 27 ∨ j = 28 ∨ j = 29 ∨ j = 30 ∨ j = 31 by omega) with rfl | rfl | rfl | rfl | rfl | rfl | rfl | rfl | rfl | rfl | rfl | rfl | rfl | rfl | rfl | rfl | rfl | rfl | rfl | rfl | rfl | rfl | rfl | rfl | rfl | rfl | rfl | rfl | rfl | rfl | rfl | rfl
    · refine lv_tableIn (off := 99) (tgt := 132) hx hb dL_law_33 (by decide +kernel) (by decide +kernel) (by decide +kernel) (by decide) ?_
      exact lc_feed G hX hbl hbA hi6 hL h8 h9 hP hD hS hl nxt
    · refine lv_tableIn (off := 162) (tgt := 195) hx hb dL_law_33 (by decide +kernel) (by decide +kernel) (by decide +kernel) (by decide) ?_
      exact lc_back G hX hbl hbA hi6 hL h8 h9 hP hD hS hl nxt
    · refine lv_tableIn (off := 185) (tgt := 218) hx hb dL_law_33 (by decide +kernel) (by decide +kernel) (by decide +kernel) (by decide) ?_
      exact lc_read G hX hbl hbA hi6 hL h8 h9 hP hD hS hl nxt
    · refine lv_tableIn (off := 198) (tgt := 231) hx hb dL_law_33 (by decide +kernel) (by decide +kernel) (by decide +kernel) (by decide) ?_
      exact lc_place G hX hbl hbA hi6 hL h8 h9 hP hD hS hl nxt
    · refine lv_tableIn (off := 211) (tgt := 244) hx hb dL_law_33 (by decide +kernel) (by decide +kernel) (by decide +kernel) (by decide) ?_
      exact lc_ins G hX hbl hbA hi6 hL h8 h9 hP hD hS hl nxt
    · refine lv_tableIn (off := 254) (tgt := 287) hx hb dL_law_33 (by decide +kernel) (by decide +kernel) (by decide +kernel) (by decide) ?_
      exact lc_begin G hX hbl hbA hi6 hL h8 h9 hP hD hS hl nxt
    · refine lv_tableIn (off := 277) (tgt := 310) hx hb dL_law_33 (by decide +kernel) (by decide +kernel) (by decide +kernel) (by decide) ?_
      exact lc_step G hX hbl hbA hi6 hL h8 h9 hP hD hS hl nxt
    · refine lv_tableIn (off := 300) (tgt := 333) hx hb dL_law_33 (by decide +kernel) (by decide +kernel) (by decide +kernel) (by decide) ?_
      exact lc_undo G hX hbl hbA hi6 hL h8 h9 hP hD hS hl nxt
    · refine lv_tableIn (off := 313) (tgt := 346) hx hb dL_law_33 (by decide +kernel) (by decide +kernel) (by decide +kernel) (by decide) ?_
      exact lc_register G hX hbl hbA hi6 hL h8 h9 hP hD hS hl nxt
    · refine lv_tableIn (off := 346) (tgt := 379) hx hb dL_law_33 (by decide +kernel) (by decide +kernel) (by decide +kernel) (by decide) ?_
      exact lc_memory G hX hbl hbA hi6 hL h8 h9 hP hD hS hl nxt
    · refine lv_tableIn (off := 369) (tgt := 402) hx hb dL_law_33 (by decide +kernel) (by decide +kernel) (by decide +kernel) (by decide) ?_
      exact lc_next G hX hbl hbA hi6 hL h8 h9 hP hD hS hl nxt
    · refine lv_tableIn (off := 392) (tgt := 425) hx hb dL_law_33 (by decide +kernel) (by decide +kernel) (by decide +kernel) (by decide) ?_
      exact lc_store G hX hbl hbA hi6 hL h8 h9 hP hD hS hl nxt
    · refine lv_tableIn (off := 435) (tgt := 468) hx hb dL_law_33 (by decide +kernel) (by decide +kernel) (by decide +kernel) (by decide) ?_
      exact lc_outcomes G hX hbl hbA hi6 hL h8 h9 hP hD hS hl nxt
    · refine lv_tableIn (off := 458) (tgt := 491) hx hb dL_law_33 (by decide +kernel) (by decide +kernel) (by decide +kernel) (by decide) ?_
      exact lc_outcome G hX hbl hbA hi6 hL h8 h9 hP hD hS hl nxt
    · refine lv_tableIn (off := 501) (tgt := 534) hx hb dL_law_33 (by decide +kernel) (by decide +kernel) (by decide +kernel) (by decide) ?_
      exact lc_schedule G hX hbl hbA hi6 hL h8 h9 hP hD hS hl nxt
    · refine lv_tableIn (off := 544) (tgt := 577) hx hb dL_law_33 (by decide +kernel) (by decide +kernel) (by decide +kernel) (by decide) ?_
      exact lc_more G hX hbl hbA hi6 hL h8 h9 hP hD hS hl nxt
    · refine lv_tableIn (off := 567) (tgt := 600) hx hb dL_law_33 (by decide +kernel) (by decide +kernel) (by decide +kernel) (by decide) ?_
      exact lc_race G hX hbl hbA hi6 hL h8 h9 hP hD hS hl nxt
    · refine lv_tableIn (off := 580) (tgt := 613) hx hb dL_law_33 (by decide +kernel) (by decide +kernel) (by decide +kernel) (by decide) ?_
      exact lc_racer G hX hbl hbA hi6 hL h8 h9 hP hD hS hl nxt
    · refine lv_tableIn (off := 603) (tgt := 636) hx hb dL_law_33 (by decide +kernel) (by decide +kernel) (by decide +kernel) (by decide) ?_
      exact lc_cure G hX hbl hbA hi6 hL h8 h9 hP hD hS hl nxt
    · refine lv_tableIn (off := 626) (tgt := 659) hx hb dL_law_33 (by decide +kernel) (by decide +kernel) (by decide +kernel) (by decide) ?_
      exact lc_cured G hX hbl hbA hi6 hL h8 h9 hP hD hS hl nxt
    · refine lv_tableIn (off := 649) (tgt := 682) hx hb dL_law_33 (by decide +kernel) (by decide +kernel) (by decide +kernel) (by decide) ?_
      exact lc_count G hX hbl hbA hi6 hL h8 h9 hP hD hS hl nxt
    · refine lv_tableOut (tgt := 705) hx hb dL_law_33 (Or.inr (by decide +kernel)) (by decide) ?_
      exact nxt w8 w9 tz f fp ld nc Lv cf pf vst vk vm vd kc ns H locs h8 h9 hP hD hS
    · refine lv_tableOut (tgt := 705) hx hb dL_law_33 (Or.inr (by decide +kernel)) (by decide) ?_
      exact nxt w8 w9 tz f fp ld nc Lv cf pf vst vk vm vd kc ns H locs h8 h9 hP hD hS
    · refine lv_tableOut (tgt := 705) hx hb dL_law_33 (Or.inr (by decide +kernel)) (by decide) ?_
      exact nxt w8 w9 tz f fp ld nc Lv cf pf vst vk vm vd kc ns H locs h8 h9 hP hD hS
    · refine lv_tableOut (tgt := 705) hx hb dL_law_33 (Or.inr (by decide +kernel)) (by decide) ?_
      exact nxt w8 w9 tz f fp ld nc Lv cf pf vst vk vm vd kc ns H locs h8 h9 hP hD hS
    · refine lv_tableOut (tgt := 705) hx hb dL_law_33 (Or.inr (by decide +kernel)) (by decide) ?_
      exact nxt w8 w9 tz f fp ld nc Lv cf pf vst vk vm vd kc ns H locs h8 h9 hP hD hS
    · refine lv_tableOut (tgt := 705) hx hb dL_law_33 (Or.inr (by decide +kernel)) (by decide) ?_
      exact nxt w8 w9 tz f fp ld nc Lv cf pf vst vk vm vd kc ns H locs h8 h9 hP hD hS
    · refine lv_tableOut (tgt := 705) hx hb dL_law_33 (Or.inr (by decide +kernel)) (by decide) ?_
      exact nxt w8 w9 tz f fp ld nc Lv cf pf vst vk vm vd kc ns H locs h8 h9 hP hD hS
    · refine lv_tableOut (tgt := 705) hx hb dL_law_33 (Or.inr (by decide +kernel)) (by decide) ?_
      exact nxt w8 w9 tz f fp ld nc Lv cf pf vst vk vm vd kc ns H locs h8 h9 hP hD hS
    · refine lv_tableOut (tgt := 705) hx hb dL_law_33 (Or.inr (by decide +kernel)) (by decide) ?_
      exact nxt w8 w9 tz f fp ld nc Lv cf pf vst vk vm vd kc ns H locs h8 h9 hP hD hS
    · refine lv_tableOut (tgt := 705) hx hb dL_law_33 (Or.inr (by decide +kernel)) (by decide) ?_
      exact nxt w8 w9 tz f fp ld nc Lv cf pf vst vk vm vd kc ns H locs h8 h9 hP hD hS
    · refine lv_tableOut (tgt := 705) hx hb dL_law_33 (Or.inr (by decide +kernel)) (by decide) ?_
      exact nxt w8 w9 tz f fp ld nc Lv cf pf vst vk vm vd kc ns H locs h8 h9 hP hD hS
  · refine lv_icmp_gt (tgt := 711) hx hb dL_law_24 (by decide) (fun _ => fin) (fun c9 => absurd (gLm (by omega) (by omega)) c9)
