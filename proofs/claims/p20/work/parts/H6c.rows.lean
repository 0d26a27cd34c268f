set_option maxHeartbeats 4000000 in
set_option maxRecDepth 100000 in
theorem hl_outcomes {p : Program} {l : Launch} {e : Env} {s : State} {m : MethodId} {below : List Frame} {meth : Method} {c : Code} {b : Nat} {A : Nat → Prop} {Q : State → Prop} {D : va_G} {cI cB cZ : ClassId} {K : gKS} (G : gL p s m c b A D cI cB cZ K) {H : Heap} {locs : List Loc} {ls : Array Slot} {w8 w9 : va_W} {h0 tz kc ns : Nat} {f : Nat → Int32} {fp ld : Int32} {nc : Nat} {L : Nat → Nat} {cf : Nat → Int32} {pf : Nat → Int32} {vst : Int32} {vk : Nat} {vm : Int32} {vd : Nat → Int32} (hH : HallI cI cB cZ h0 w8 tz f fp ld nc L cf pf vst vk vm vd kc ns) (hP : va_P D vwCl (w8 ++ w9) H) (hD : va_D A (w8 ++ w9)) (hS : va_S A s.heap H locs) (hl : ls.size = 4 ∧ True) (hsk : ¬ ld = 0 → bSk pf L nc) (z1 : Int32) (kk : ∀ (r : Int32) (w8' : va_W) (tz9 : Nat) (f9 : Nat → Int32) (fp9 ld9 : Int32) (nc9 : Nat) (L9 : Nat → Nat) (cf9 : Nat → Int32) (pf9 : Nat → Int32) (vst9 : Int32) (vk9 : Nat) (vm9 : Int32) (vd9 : Nat → Int32) (kc9 ns9 : Nat) (H1 : Heap) (locs1 : List Loc), HallI cI cB cZ h0 w8' tz9 f9 fp9 ld9 nc9 L9 cf9 pf9 vst9 vk9 vm9 vd9 kc9 ns9 → (((rQ (fun a b c => ¬ ld = 0 ∧ a < 2 ∧ b = 0 ∧ c = 0) (fun a _ _ => bOc pf cf L nc a) (-1) z1 (nI 0) (nI 0) r) ∧ nc ≤ 3 ∧ (∀ j, j < 3 → L j ≤ 6) ∧ gG L pf 5) ∧ tz = tz9 ∧ f = f9 ∧ fp = fp9 ∧ ld = ld9 ∧ nc = nc9 ∧ L = L9 ∧ cf = cf9 ∧ pf = pf9 ∧ vst = vst9 ∧ vk = vk9 ∧ vm = vm9 ∧ vd = vd9) → va_P D vwCl (w8' ++ w9) H1 → va_D A (w8' ++ w9) → va_S A s.heap H1 locs1 → W p l e room_1 s m #[Value.ref b] below meth c H1 locs1 kc9 ns9 Q (F0 m 477 ls [.int r])) : W p l e room_1 s m #[Value.ref b] below meth c H locs kc ns Q (F0 m 474 ls [.int z1, .ref h0]) := by
  obtain ⟨hx, hb, hml, hown, hts, hA, hK, hN, hE⟩ := G
  rcases hH with hH | hH
  · refine HallN_el hH (fun a r0 k4 k5 k6 k7 p0 b1 b2 b3 d0 e1 e2 e3 m0 ms mw md oA oB ra a6 cu f0 g1 g2 g3 a3l a5t pv fv lp t tl vr vl Kd sf nf Tk ncd Ld cfd pfd mf flA stA sA bA rrA recA flB stB sB bB rrB recB ran rr2 rr3 rr4 rt rpa lz can cts td lk fc FL fcf fpf htz hR hTk hgo hmk hM hsA hrA hmA hsB hrB hmB hrt hlz hCm hk9 hn9 hw9 => ?_)
    clear hH
    subst hk9; subst hn9; subst hw9
    obtain ⟨hc, hL6, hI5⟩ := id hgo
    have hL := gL6_8 hL6
    have hI := gG_up (b' := 7) hI5 (by decide)
    have hbG : ¬ ld = 0 → bG pf L nc := fun h => bG_mk hgo (hsk h)
    have hkb := gq_kN hmA hmB
    refine gq_gowi (post := po_x_outcomesN cI cB cZ h0 oA oB ld (.ref a) (.int (nI tz)) (.ref r0) (.int fp) (.ref m0) (.ref ra) (.ref cu) p0 b1 b2 b3 nc L cf pf flA stA sA bA rrA recA flB stB sB bB rrB recB z1) (wc := [(h0, .inr (8, [.ref a, .int (nI tz), .ref r0, .int fp, .int ld, .ref p0, .ref m0, .null, .ref oA, .ref oB, .ref ra, .ref cu])), (oA, .inr (2, [.int 0, .int flA, .int (nI stA), .int (nI sA), .ref bA])), (bA, .inl (cI, rrA, .inl recA)), (oB, .inr (2, [.int 0, .int flB, .int (nI stB), .int (nI sB), .ref bB])), (bB, .inl (cI, rrB, .inl recB)), (p0, .inr (4, [.int (nI nc), .ref b1, .ref b2, .ref b3])), (b1, .inl (cI, 3, .inl (fun j => nI (L j)))), (b2, .inl (cI, 4, .inl cf)), (b3, .inl (cI, 192, .inl pf))]) (wr := [(a, .inl (cB, 4000, .inl f)), (r0, .inr (6, [.ref d0, .int pv, .int fv, .int lp, .ref k4, .ref k5, .ref k6, .ref k7, .int (nI t), .int tl, .int vr, .int vl])), (k4, .inl (cI, 501, .inl (fun j => nI (Kd j)))), (k5, .inl (cI, 501, .inl sf)), (k6, .inl (cI, 501, .inl nf)), (k7, .inl (cI, 6, .inl (fun j => nI (Tk j)))), (d0, .inr (4, [.int (nI ncd), .ref e1, .ref e2, .ref e3])), (e1, .inl (cI, 3, .inl (fun j => nI (Ld j)))), (e2, .inl (cI, 4, .inl cfd)), (e3, .inl (cI, 192, .inl pfd)), (m0, .inr (3, [.ref ms, .int vst, .int (nI vk), .int vm, .ref md])), (ms, .inr (7, [.ref mw])), (mw, .inl (cI, 34, .inl mf)), (md, .inl (cI, 38, .inl vd)), (ra, .inr (5, [.int 0, .int ran, .int rr2, .int rr3, .int rr4, .int (nI rt), .ref a6])), (a6, .inl (cI, 38, .inl rpa)), (cu, .inr (0, [.ref f0, .int (nI lz), .int can, .ref a3l, .int cts, .ref a5t])), (a3l, .inl (cI, 2, .inl lk)), (a5t, .inl (cI, 2, .inl td)), (f0, .inr (4, [.int fc, .ref g1, .ref g2, .ref g3])), (g1, .inl (cI, 3, .inl (fun j => nI (FL j)))), (g2, .inl (cI, 4, .inl fcf)), (g3, .inl (cI, 192, .inl fpf))]) (va_runV (As := [.int z1]) (rest := []) ⟨hx, hb, hml, hown, hts⟩ (x_outcomesN l D cI cB cZ h0 oA oB ld (.ref a) (.int (nI tz)) (.ref r0) (.int fp) (.ref m0) (.ref ra) (.ref cu) p0 b1 b2 b3 nc L cf pf flA stA sA bA rrA recA flB stB sB bB rrB recB z1 hc hL6 hI5 hsA hrA hmA hsB hrB hmB hbG _ _) (cwV 1 hts gP_law__x_outcomesN rfl rfl rfl (by decide +kernel) ⟨Nat.le_of_ble_eq_true rfl, Nat.le_of_ble_eq_true rfl⟩) (gw_preV (ci := 8) (q0 := 0) hK (hN.sub (by decide +kernel)) (gq_Pl hP) (gq_Dl hD) [0, 19, 20, 21, 22, 7, 8, 9, 10] rfl rfl rfl rfl) rfl rfl hl.1 rfl (lv_room (Nat.le_of_ble_eq_true rfl)) dL_law_474 ⟨(Nat.le_trans (Nat.add_le_add_right hkb.1 _) (Nat.le_of_ble_eq_true rfl)), (Nat.le_trans (Nat.add_le_add_right hkb.2 _) (Nat.le_of_ble_eq_true rfl))⟩) hP hD hS hA [0, 19, 20, 21, 22, 7, 8, 9, 10] [1, 2, 3, 4, 5, 6, 11, 12, 13, 14, 15, 16, 17, 18, 23, 24, 25, 26, 27, 28, 29, 30, 31] rfl rfl rfl (by decide) (fun r1 w1 k1 n1 H locs hp hP hD hS => ?_)
    rcases hp with hp | hp
    · obtain ⟨e_1, hp⟩ := hp
      obtain ⟨hx474_0, hp⟩ := hp
      obtain ⟨hk1, hp⟩ := hp
      obtain ⟨hn1, hp⟩ := hp
      obtain ⟨h9, hp⟩ := hp
      subst hp
      have hk1 := hk1.symm; subst hk1; have hn1 := hn1.symm; subst hn1
      have h9 := h9.symm
      subst h9
      have hx474_0 : rQ (fun a b c => ¬ ld = 0 ∧ a < 2 ∧ b = 0 ∧ c = 0) (fun a _ _ => bOc pf cf L nc a) (-1) z1 (nI 0) (nI 0) e_1 := hx474_0
      refine W.widen (k := 63 + (rrA / 17) + (rrB / 17) + (0)) (n := 584682 + (2 * rrA + 51000 * (rrA / 51000)) + (2 * rrB + 51000 * (rrB / 51000)) + (0)) (Nat.le_refl _) (Nat.le_refl _) ?_
      have hP := gq_subP (X' := [(h0, .inr (8, [.ref a, .int (nI tz), .ref r0, .int fp, .int ld, .ref p0, .ref m0, .null, .ref oA, .ref oB, .ref ra, .ref cu])), (a, .inl (cB, 4000, .inl f)), (r0, .inr (6, [.ref d0, .int pv, .int fv, .int lp, .ref k4, .ref k5, .ref k6, .ref k7, .int (nI t), .int tl, .int vr, .int vl])), (k4, .inl (cI, 501, .inl (fun j => nI (Kd j)))), (k5, .inl (cI, 501, .inl sf)), (k6, .inl (cI, 501, .inl nf)), (k7, .inl (cI, 6, .inl (fun j => nI (Tk j)))), (p0, .inr (4, [.int (nI nc), .ref b1, .ref b2, .ref b3])), (b1, .inl (cI, 3, .inl (fun j => nI (L j)))), (b2, .inl (cI, 4, .inl cf)), (b3, .inl (cI, 192, .inl pf)), (d0, .inr (4, [.int (nI ncd), .ref e1, .ref e2, .ref e3])), (e1, .inl (cI, 3, .inl (fun j => nI (Ld j)))), (e2, .inl (cI, 4, .inl cfd)), (e3, .inl (cI, 192, .inl pfd)), (m0, .inr (3, [.ref ms, .int vst, .int (nI vk), .int vm, .ref md])), (ms, .inr (7, [.ref mw])), (mw, .inl (cI, 34, .inl mf)), (md, .inl (cI, 38, .inl vd)), (oA, .inr (2, [.int 0, .int flA, .int (nI stA), .int (nI sA), .ref bA])), (bA, .inl (cI, rrA, .inl recA)), (oB, .inr (2, [.int 0, .int flB, .int (nI stB), .int (nI sB), .ref bB])), (bB, .inl (cI, rrB, .inl recB)), (ra, .inr (5, [.int 0, .int ran, .int rr2, .int rr3, .int rr4, .int (nI rt), .ref a6])), (a6, .inl (cI, 38, .inl rpa)), (cu, .inr (0, [.ref f0, .int (nI lz), .int can, .ref a3l, .int cts, .ref a5t])), (a3l, .inl (cI, 2, .inl lk)), (a5t, .inl (cI, 2, .inl td)), (f0, .inr (4, [.int fc, .ref g1, .ref g2, .ref g3])), (g1, .inl (cI, 3, .inl (fun j => nI (FL j)))), (g2, .inl (cI, 4, .inl fcf)), (g3, .inl (cI, 192, .inl fpf))]) hP [23, 0, 1, 2, 3, 4, 5, 28, 29, 30, 31, 6, 7, 8, 9, 10, 11, 12, 13, 24, 25, 26, 27, 14, 15, 16, 17, 18, 19, 20, 21, 22] rfl
      have hD := gq_subD (X' := [(h0, .inr (8, [.ref a, .int (nI tz), .ref r0, .int fp, .int ld, .ref p0, .ref m0, .null, .ref oA, .ref oB, .ref ra, .ref cu])), (a, .inl (cB, 4000, .inl f)), (r0, .inr (6, [.ref d0, .int pv, .int fv, .int lp, .ref k4, .ref k5, .ref k6, .ref k7, .int (nI t), .int tl, .int vr, .int vl])), (k4, .inl (cI, 501, .inl (fun j => nI (Kd j)))), (k5, .inl (cI, 501, .inl sf)), (k6, .inl (cI, 501, .inl nf)), (k7, .inl (cI, 6, .inl (fun j => nI (Tk j)))), (p0, .inr (4, [.int (nI nc), .ref b1, .ref b2, .ref b3])), (b1, .inl (cI, 3, .inl (fun j => nI (L j)))), (b2, .inl (cI, 4, .inl cf)), (b3, .inl (cI, 192, .inl pf)), (d0, .inr (4, [.int (nI ncd), .ref e1, .ref e2, .ref e3])), (e1, .inl (cI, 3, .inl (fun j => nI (Ld j)))), (e2, .inl (cI, 4, .inl cfd)), (e3, .inl (cI, 192, .inl pfd)), (m0, .inr (3, [.ref ms, .int vst, .int (nI vk), .int vm, .ref md])), (ms, .inr (7, [.ref mw])), (mw, .inl (cI, 34, .inl mf)), (md, .inl (cI, 38, .inl vd)), (oA, .inr (2, [.int 0, .int flA, .int (nI stA), .int (nI sA), .ref bA])), (bA, .inl (cI, rrA, .inl recA)), (oB, .inr (2, [.int 0, .int flB, .int (nI stB), .int (nI sB), .ref bB])), (bB, .inl (cI, rrB, .inl recB)), (ra, .inr (5, [.int 0, .int ran, .int rr2, .int rr3, .int rr4, .int (nI rt), .ref a6])), (a6, .inl (cI, 38, .inl rpa)), (cu, .inr (0, [.ref f0, .int (nI lz), .int can, .ref a3l, .int cts, .ref a5t])), (a3l, .inl (cI, 2, .inl lk)), (a5t, .inl (cI, 2, .inl td)), (f0, .inr (4, [.int fc, .ref g1, .ref g2, .ref g3])), (g1, .inl (cI, 3, .inl (fun j => nI (FL j)))), (g2, .inl (cI, 4, .inl fcf)), (g3, .inl (cI, 192, .inl fpf))]) hD [23, 0, 1, 2, 3, 4, 5, 28, 29, 30, 31, 6, 7, 8, 9, 10, 11, 12, 13, 24, 25, 26, 27, 14, 15, 16, 17, 18, 19, 20, 21, 22] (by decide) rfl
      exact kk e_1 _ tz f fp ld nc L cf pf vst vk vm vd _ _ H locs (Or.inl (HallN_mk cI cB cZ h0 tz f fp ld nc L cf pf vst vk vm vd a r0 k4 k5 k6 k7 p0 b1 b2 b3 d0 e1 e2 e3 m0 ms mw md oA oB ra a6 cu f0 g1 g2 g3 a3l a5t pv fv lp t tl vr vl Kd sf nf Tk ncd Ld cfd pfd mf flA stA sA bA rrA recA flB stB sB bB rrB recB ran rr2 rr3 rr4 rt rpa lz can cts td lk fc FL fcf fpf htz hR hTk hgo hmk hM hsA hrA hmA hsB hrB hmB hrt hlz hCm)) ⟨⟨hx474_0, hgo⟩, rfl, rfl, rfl, rfl, rfl, rfl, rfl, rfl, rfl, rfl, rfl, rfl⟩ hP hD hS
    · obtain ⟨e_2, hp⟩ := hp
      obtain ⟨e_3, hp⟩ := hp
      obtain ⟨e_4, hp⟩ := hp
      obtain ⟨e_5, hp⟩ := hp
      obtain ⟨e_6, hp⟩ := hp
      obtain ⟨e_7, hp⟩ := hp
      obtain ⟨e_8, hp⟩ := hp
      obtain ⟨e_9, hp⟩ := hp
      obtain ⟨e_10, hp⟩ := hp
      obtain ⟨e_11, hp⟩ := hp
      obtain ⟨e_12, hp⟩ := hp
      obtain ⟨e_13, hp⟩ := hp
      obtain ⟨e_14, hp⟩ := hp
      obtain ⟨e_15, hp⟩ := hp
      obtain ⟨e_16, hp⟩ := hp
      obtain ⟨e_17, hp⟩ := hp
      obtain ⟨e_18, hp⟩ := hp
      obtain ⟨e_19, hp⟩ := hp
      obtain ⟨e_20, hp⟩ := hp
      obtain ⟨e_21, hp⟩ := hp
      obtain ⟨e_22, hp⟩ := hp
      obtain ⟨e_23, hp⟩ := hp
      obtain ⟨e_24, hp⟩ := hp
      obtain ⟨e_25, hp⟩ := hp
      obtain ⟨e_26, hp⟩ := hp
      obtain ⟨e_27, hp⟩ := hp
      obtain ⟨e_28, hp⟩ := hp
      obtain ⟨e_29, hp⟩ := hp
      obtain ⟨e_30, hp⟩ := hp
      obtain ⟨e_31, hp⟩ := hp
      obtain ⟨e_32, hp⟩ := hp
      obtain ⟨e_33, hp⟩ := hp
      obtain ⟨e_34, hp⟩ := hp
      obtain ⟨e_35, hp⟩ := hp
      obtain ⟨e_36, hp⟩ := hp
      obtain ⟨e_37, hp⟩ := hp
      obtain ⟨hq_38, hp⟩ := hp
      obtain ⟨hq_39, hp⟩ := hp
      obtain ⟨hq_40, hp⟩ := hp
      obtain ⟨hq_41, hp⟩ := hp
      obtain ⟨hq_42, hp⟩ := hp
      obtain ⟨hx474_0, hp⟩ := hp
      obtain ⟨hx474_1, hp⟩ := hp
      obtain ⟨hx474_2, hp⟩ := hp
      obtain ⟨hk1, hp⟩ := hp
      obtain ⟨hn1, hp⟩ := hp
      obtain ⟨h9, hp⟩ := hp
      subst hp
      have hk1 := hk1.symm; subst hk1; have hn1 := hn1.symm; subst hn1
      have h9 := h9.symm
      subst h9
      have hq_38 : e_15 * 17 ≤ e_17 := hq_38
      have hq_39 : rrA ≤ e_17 ∧ e_17 ≤ 51000 ∧ e_17 % 17 = 0 := hq_39
      have hq_40 : e_22 * 17 ≤ e_24 := hq_40
      have hq_41 : rrB ≤ e_24 ∧ e_24 ≤ 51000 ∧ e_24 % 17 = 0 := hq_41
      have hq_42 : gRl e_30 ∧ 1600 ≤ e_30 ∧ e_30 ≤ 102000 := hq_42
      have hx474_0 : ¬ e_12 = 0 → fSp pf cf L nc 1 e_13 e_14 e_15 e_18 := hx474_0
      have hx474_1 : ¬ e_19 = 0 → fSp pf cf L nc 0 e_20 e_21 e_22 e_25 := hx474_1
      have hx474_2 : rQ (fun a b c => ¬ ld = 0 ∧ a < 2 ∧ b = 0 ∧ c = 0) (fun a _ _ => bOc pf cf L nc a) (-1) z1 (nI 0) (nI 0) e_2 := hx474_2
      refine W.widen (k := 63 + (rrA / 17) + (rrB / 17) + (10 + ((e_30 - 1600) / 4800) + ((e_17 - rrA) / 17) + ((e_24 - rrB) / 17))) (n := 584682 + (2 * rrA + 51000 * (rrA / 51000)) + (2 * rrB + 51000 * (rrB / 51000)) + (11814 + (2 * (e_30 - 1600)) + ((2 * e_17 + 51000 * (e_17 / 51000)) - (2 * rrA + 51000 * (rrA / 51000))) + ((2 * e_24 + 51000 * (e_24 / 51000)) - (2 * rrB + 51000 * (rrB / 51000))))) (Nat.le_refl _) (Nat.le_refl _) ?_
      have hP := gq_subP (X' := [(h0, .inr (8, [.ref a, .int (nI tz), .ref r0, .int fp, .int ld, .ref p0, .ref m0, .ref e_3, .ref oA, .ref oB, .ref ra, .ref cu])), (a, .inl (cB, 4000, .inl f)), (r0, .inr (6, [.ref d0, .int pv, .int fv, .int lp, .ref k4, .ref k5, .ref k6, .ref k7, .int (nI t), .int tl, .int vr, .int vl])), (k4, .inl (cI, 501, .inl (fun j => nI (Kd j)))), (k5, .inl (cI, 501, .inl sf)), (k6, .inl (cI, 501, .inl nf)), (k7, .inl (cI, 6, .inl (fun j => nI (Tk j)))), (p0, .inr (4, [.int (nI nc), .ref b1, .ref b2, .ref b3])), (b1, .inl (cI, 3, .inl (fun j => nI (L j)))), (b2, .inl (cI, 4, .inl cf)), (b3, .inl (cI, 192, .inl pf)), (d0, .inr (4, [.int (nI ncd), .ref e1, .ref e2, .ref e3])), (e1, .inl (cI, 3, .inl (fun j => nI (Ld j)))), (e2, .inl (cI, 4, .inl cfd)), (e3, .inl (cI, 192, .inl pfd)), (m0, .inr (3, [.ref ms, .int vst, .int (nI vk), .int vm, .ref md])), (ms, .inr (7, [.ref mw])), (mw, .inl (cI, 34, .inl mf)), (md, .inl (cI, 38, .inl vd)), (oA, .inr (2, [.int e_12, .int e_13, .int (nI e_14), .int (nI e_15), .ref e_16])), (e_16, .inl (cI, e_17, .inl e_18)), (oB, .inr (2, [.int e_19, .int e_20, .int (nI e_21), .int (nI e_22), .ref e_23])), (e_23, .inl (cI, e_24, .inl e_25)), (ra, .inr (5, [.int 0, .int ran, .int rr2, .int rr3, .int rr4, .int (nI rt), .ref a6])), (a6, .inl (cI, 38, .inl rpa)), (cu, .inr (0, [.ref f0, .int (nI lz), .int can, .ref a3l, .int cts, .ref a5t])), (a3l, .inl (cI, 2, .inl lk)), (a5t, .inl (cI, 2, .inl td)), (f0, .inr (4, [.int fc, .ref g1, .ref g2, .ref g3])), (g1, .inl (cI, 3, .inl (fun j => nI (FL j)))), (g2, .inl (cI, 4, .inl fcf)), (g3, .inl (cI, 192, .inl fpf)), (e_3, .inr (1, [.int e_26, .int e_27, .ref e_4, .ref e_11, .ref e_5, .ref e_7, .int e_28, .ref e_29, .ref e_9, .ref e_10])), (e_5, .inr (7, [.ref e_6])), (e_6, .inl (cI, 34, .inl e_32)), (e_7, .inr (7, [.ref e_8])), (e_8, .inl (cI, 34, .inl e_33)), (e_4, .inl (cI, 3000, .inl e_34)), (e_29, .inl (cI, e_30, .inl e_31)), (e_9, .inl (cI, 4096, .inl e_35)), (e_10, .inl (cI, 3000, .inl e_36)), (e_11, .inl (cI, 38, .inl e_37))]) hP [23, 0, 1, 2, 3, 4, 5, 38, 39, 40, 41, 6, 7, 8, 9, 10, 11, 12, 13, 24, 25, 26, 27, 14, 15, 16, 17, 18, 19, 20, 21, 22, 28, 29, 30, 31, 32, 33, 34, 35, 36, 37] rfl
      have hD := gq_subD (X' := [(h0, .inr (8, [.ref a, .int (nI tz), .ref r0, .int fp, .int ld, .ref p0, .ref m0, .ref e_3, .ref oA, .ref oB, .ref ra, .ref cu])), (a, .inl (cB, 4000, .inl f)), (r0, .inr (6, [.ref d0, .int pv, .int fv, .int lp, .ref k4, .ref k5, .ref k6, .ref k7, .int (nI t), .int tl, .int vr, .int vl])), (k4, .inl (cI, 501, .inl (fun j => nI (Kd j)))), (k5, .inl (cI, 501, .inl sf)), (k6, .inl (cI, 501, .inl nf)), (k7, .inl (cI, 6, .inl (fun j => nI (Tk j)))), (p0, .inr (4, [.int (nI nc), .ref b1, .ref b2, .ref b3])), (b1, .inl (cI, 3, .inl (fun j => nI (L j)))), (b2, .inl (cI, 4, .inl cf)), (b3, .inl (cI, 192, .inl pf)), (d0, .inr (4, [.int (nI ncd), .ref e1, .ref e2, .ref e3])), (e1, .inl (cI, 3, .inl (fun j => nI (Ld j)))), (e2, .inl (cI, 4, .inl cfd)), (e3, .inl (cI, 192, .inl pfd)), (m0, .inr (3, [.ref ms, .int vst, .int (nI vk), .int vm, .ref md])), (ms, .inr (7, [.ref mw])), (mw, .inl (cI, 34, .inl mf)), (md, .inl (cI, 38, .inl vd)), (oA, .inr (2, [.int e_12, .int e_13, .int (nI e_14), .int (nI e_15), .ref e_16])), (e_16, .inl (cI, e_17, .inl e_18)), (oB, .inr (2, [.int e_19, .int e_20, .int (nI e_21), .int (nI e_22), .ref e_23])), (e_23, .inl (cI, e_24, .inl e_25)), (ra, .inr (5, [.int 0, .int ran, .int rr2, .int rr3, .int rr4, .int (nI rt), .ref a6])), (a6, .inl (cI, 38, .inl rpa)), (cu, .inr (0, [.ref f0, .int (nI lz), .int can, .ref a3l, .int cts, .ref a5t])), (a3l, .inl (cI, 2, .inl lk)), (a5t, .inl (cI, 2, .inl td)), (f0, .inr (4, [.int fc, .ref g1, .ref g2, .ref g3])), (g1, .inl (cI, 3, .inl (fun j => nI (FL j)))), (g2, .inl (cI, 4, .inl fcf)), (g3, .inl (cI, 192, .inl fpf)), (e_3, .inr (1, [.int e_26, .int e_27, .ref e_4, .ref e_11, .ref e_5, .ref e_7, .int e_28, .ref e_29, .ref e_9, .ref e_10])), (e_5, .inr (7, [.ref e_6])), (e_6, .inl (cI, 34, .inl e_32)), (e_7, .inr (7, [.ref e_8])), (e_8, .inl (cI, 34, .inl e_33)), (e_4, .inl (cI, 3000, .inl e_34)), (e_29, .inl (cI, e_30, .inl e_31)), (e_9, .inl (cI, 4096, .inl e_35)), (e_10, .inl (cI, 3000, .inl e_36)), (e_11, .inl (cI, 38, .inl e_37))]) hD [23, 0, 1, 2, 3, 4, 5, 38, 39, 40, 41, 6, 7, 8, 9, 10, 11, 12, 13, 24, 25, 26, 27, 14, 15, 16, 17, 18, 19, 20, 21, 22, 28, 29, 30, 31, 32, 33, 34, 35, 36, 37] (by decide) rfl
      refine W.widen (k := 63 + (e_17 / 17) + (e_24 / 17) + 10 + ((e_30 - 1600) / 4800)) (n := 584682 + (2 * e_17 + 51000 * (e_17 / 51000)) + (2 * e_24 + 51000 * (e_24 / 51000)) + 11814 + (2 * (e_30 - 1600))) (gq_wN (hq_39).1 hrA.2 (hq_39).2.2 (hq_41).1 hrB.2 (hq_41).2.2).1 (gq_wN (hq_39).1 hrA.2 (hq_39).2.2 (hq_41).1 hrB.2 (hq_41).2.2).2 ?_
      exact kk e_2 _ tz f fp ld nc L cf pf vst vk vm vd _ _ H locs (Or.inr (HallE_mk cI cB cZ h0 tz f fp ld nc L cf pf vst vk vm vd a r0 k4 k5 k6 k7 p0 b1 b2 b3 d0 e1 e2 e3 m0 ms mw md oA oB ra a6 cu f0 g1 g2 g3 a3l a5t pv fv lp t tl vr vl Kd sf nf Tk ncd Ld cfd pfd mf e_12 e_13 e_14 e_15 e_16 e_17 e_18 e_19 e_20 e_21 e_22 e_23 e_24 e_25 0 ran rr2 rr3 rr4 rt rpa lz can cts td lk fc FL fcf fpf e_3 e_4 e_5 e_6 e_7 e_8 e_9 e_10 e_11 e_26 e_27 e_28 e_29 e_30 e_31 e_32 e_33 e_34 e_35 e_36 e_37 htz hR hTk hgo hmk hM hq_38 ⟨Nat.le_trans hrA.1 (hq_39).1, (hq_39).2.2⟩ (hq_39).2.1 hq_40 ⟨Nat.le_trans hrB.1 (hq_41).1, (hq_41).2.2⟩ (hq_41).2.1 hrt hlz hCm (hq_42).1 (hq_42).2 hx474_0 hx474_1)) ⟨⟨hx474_2, hgo⟩, rfl, rfl, rfl, rfl, rfl, rfl, rfl, rfl, rfl, rfl, rfl, rfl⟩ hP hD hS
  · refine HallE_el hH (fun a r0 k4 k5 k6 k7 p0 b1 b2 b3 d0 e1 e2 e3 m0 ms mw md oA oB ra a6 cu f0 g1 g2 g3 a3l a5t pv fv lp t tl vr vl Kd sf nf Tk ncd Ld cfd pfd mf knA flA stA sA bA rrA recA knB flB stB sB bB rrB recB rkn ran rr2 rr3 rr4 rt rpa lz can cts td lk fc FL fcf fpf x0 a2 s4 w4 s5 w5 a8 a9 a3 i0 i1 i6 a7 rl rf f4 f5 ef sl cm pp htz hR hTk hgo hmk hM hsA hrA hmA hsB hrB hmB hrt hlz hCm hrl hrm hFA hFB hk9 hn9 hw9 => ?_)
    clear hH
    subst hk9; subst hn9; subst hw9
    obtain ⟨hc, hL6, hI5⟩ := id hgo
    have hL := gL6_8 hL6
    have hI := gG_up (b' := 7) hI5 (by decide)
    have hbG : ¬ ld = 0 → bG pf L nc := fun h => bG_mk hgo (hsk h)
    have hkb := gq_k hmA hmB hrm.2
    refine gq_gowi (post := po_x_outcomesE cI cB cZ h0 oA oB ld (.ref a) (.int (nI tz)) (.ref r0) (.int fp) (.ref m0) (.ref ra) (.ref cu) p0 b1 b2 b3 nc L cf pf knA flA stA sA bA rrA recA knB flB stB sB bB rrB recB x0 a2 s4 w4 s5 w5 a8 a9 a3 i0 i1 i6 a7 rl rf f4 f5 ef sl cm pp z1) (wc := [(h0, .inr (8, [.ref a, .int (nI tz), .ref r0, .int fp, .int ld, .ref p0, .ref m0, .ref x0, .ref oA, .ref oB, .ref ra, .ref cu])), (oA, .inr (2, [.int knA, .int flA, .int (nI stA), .int (nI sA), .ref bA])), (bA, .inl (cI, rrA, .inl recA)), (oB, .inr (2, [.int knB, .int flB, .int (nI stB), .int (nI sB), .ref bB])), (bB, .inl (cI, rrB, .inl recB)), (x0, .inr (1, [.int i0, .int i1, .ref a2, .ref a3, .ref s4, .ref s5, .int i6, .ref a7, .ref a8, .ref a9])), (s4, .inr (7, [.ref w4])), (w4, .inl (cI, 34, .inl f4)), (s5, .inr (7, [.ref w5])), (w5, .inl (cI, 34, .inl f5)), (a2, .inl (cI, 3000, .inl ef)), (a7, .inl (cI, rl, .inl rf)), (a8, .inl (cI, 4096, .inl sl)), (a9, .inl (cI, 3000, .inl cm)), (a3, .inl (cI, 38, .inl pp)), (p0, .inr (4, [.int (nI nc), .ref b1, .ref b2, .ref b3])), (b1, .inl (cI, 3, .inl (fun j => nI (L j)))), (b2, .inl (cI, 4, .inl cf)), (b3, .inl (cI, 192, .inl pf))]) (wr := [(a, .inl (cB, 4000, .inl f)), (r0, .inr (6, [.ref d0, .int pv, .int fv, .int lp, .ref k4, .ref k5, .ref k6, .ref k7, .int (nI t), .int tl, .int vr, .int vl])), (k4, .inl (cI, 501, .inl (fun j => nI (Kd j)))), (k5, .inl (cI, 501, .inl sf)), (k6, .inl (cI, 501, .inl nf)), (k7, .inl (cI, 6, .inl (fun j => nI (Tk j)))), (d0, .inr (4, [.int (nI ncd), .ref e1, .ref e2, .ref e3])), (e1, .inl (cI, 3, .inl (fun j => nI (Ld j)))), (e2, .inl (cI, 4, .inl cfd)), (e3, .inl (cI, 192, .inl pfd)), (m0, .inr (3, [.ref ms, .int vst, .int (nI vk), .int vm, .ref md])), (ms, .inr (7, [.ref mw])), (mw, .inl (cI, 34, .inl mf)), (md, .inl (cI, 38, .inl vd)), (ra, .inr (5, [.int rkn, .int ran, .int rr2, .int rr3, .int rr4, .int (nI rt), .ref a6])), (a6, .inl (cI, 38, .inl rpa)), (cu, .inr (0, [.ref f0, .int (nI lz), .int can, .ref a3l, .int cts, .ref a5t])), (a3l, .inl (cI, 2, .inl lk)), (a5t, .inl (cI, 2, .inl td)), (f0, .inr (4, [.int fc, .ref g1, .ref g2, .ref g3])), (g1, .inl (cI, 3, .inl (fun j => nI (FL j)))), (g2, .inl (cI, 4, .inl fcf)), (g3, .inl (cI, 192, .inl fpf))]) (va_runV (As := [.int z1]) (rest := []) ⟨hx, hb, hml, hown, hts⟩ (x_outcomesE l D cI cB cZ h0 oA oB ld (.ref a) (.int (nI tz)) (.ref r0) (.int fp) (.ref m0) (.ref ra) (.ref cu) p0 b1 b2 b3 nc L cf pf knA flA stA sA bA rrA recA knB flB stB sB bB rrB recB x0 a2 s4 w4 s5 w5 a8 a9 a3 i0 i1 i6 a7 rl rf f4 f5 ef sl cm pp z1 hc hL6 hI5 hsA hrA hmA hsB hrB hmB hbG hFA hFB hrl hrm _ _) (cwV 1 hts gP_law__x_outcomesE rfl rfl rfl (by decide +kernel) ⟨Nat.le_of_ble_eq_true rfl, Nat.le_of_ble_eq_true rfl⟩) (gw_preV (ci := 8) (q0 := 0) hK gN.nil (gq_Pl hP) (gq_Dl hD) [0, 19, 20, 21, 22, 32, 33, 34, 35, 36, 37, 38, 39, 40, 41, 7, 8, 9, 10] rfl rfl rfl rfl) rfl rfl hl.1 rfl (lv_room (Nat.le_of_ble_eq_true rfl)) dL_law_474 ⟨(Nat.le_trans (Nat.add_le_add_right hkb.1 _) (Nat.le_of_ble_eq_true rfl)), (Nat.le_trans (Nat.add_le_add_right hkb.2 _) (Nat.le_of_ble_eq_true rfl))⟩) hP hD hS hA [0, 19, 20, 21, 22, 32, 33, 34, 35, 36, 37, 38, 39, 40, 41, 7, 8, 9, 10] [1, 2, 3, 4, 5, 6, 11, 12, 13, 14, 15, 16, 17, 18, 23, 24, 25, 26, 27, 28, 29, 30, 31] rfl rfl rfl (by decide) (fun r1 w1 k1 n1 H locs hp hP hD hS => ?_)
    obtain ⟨e_1, hp⟩ := hp
    obtain ⟨e_2, hp⟩ := hp
    obtain ⟨e_3, hp⟩ := hp
    obtain ⟨e_4, hp⟩ := hp
    obtain ⟨e_5, hp⟩ := hp
    obtain ⟨e_6, hp⟩ := hp
    obtain ⟨e_7, hp⟩ := hp
    obtain ⟨e_8, hp⟩ := hp
    obtain ⟨e_9, hp⟩ := hp
    obtain ⟨e_10, hp⟩ := hp
    obtain ⟨e_11, hp⟩ := hp
    obtain ⟨e_12, hp⟩ := hp
    obtain ⟨e_13, hp⟩ := hp
    obtain ⟨e_14, hp⟩ := hp
    obtain ⟨e_15, hp⟩ := hp
    obtain ⟨e_16, hp⟩ := hp
    obtain ⟨e_17, hp⟩ := hp
    obtain ⟨e_18, hp⟩ := hp
    obtain ⟨e_19, hp⟩ := hp
    obtain ⟨e_20, hp⟩ := hp
    obtain ⟨e_21, hp⟩ := hp
    obtain ⟨e_22, hp⟩ := hp
    obtain ⟨e_23, hp⟩ := hp
    obtain ⟨e_24, hp⟩ := hp
    obtain ⟨e_25, hp⟩ := hp
    obtain ⟨e_26, hp⟩ := hp
    obtain ⟨e_27, hp⟩ := hp
    obtain ⟨hq_28, hp⟩ := hp
    obtain ⟨hq_29, hp⟩ := hp
    obtain ⟨hq_30, hp⟩ := hp
    obtain ⟨hq_31, hp⟩ := hp
    obtain ⟨hq_32, hp⟩ := hp
    obtain ⟨hq_33, hp⟩ := hp
    obtain ⟨hx474_0, hp⟩ := hp
    obtain ⟨hx474_1, hp⟩ := hp
    obtain ⟨hx474_2, hp⟩ := hp
    obtain ⟨hk1, hp⟩ := hp
    obtain ⟨hn1, hp⟩ := hp
    obtain ⟨h9, hp⟩ := hp
    subst hp
    have hk1 := hk1.symm; subst hk1; have hn1 := hn1.symm; subst hn1
    have h9 := h9.symm
    subst h9
    have hq_28 : e_5 * 17 ≤ e_7 := hq_28
    have hq_29 : rrA ≤ e_7 ∧ e_7 ≤ 51000 ∧ e_7 % 17 = 0 := hq_29
    have hq_30 : e_12 * 17 ≤ e_14 := hq_30
    have hq_31 : rrB ≤ e_14 ∧ e_14 ≤ 51000 ∧ e_14 % 17 = 0 := hq_31
    have hq_32 : rl ≤ e_20 := hq_32
    have hq_33 : gRl e_20 ∧ e_20 ≤ 102000 := hq_33
    have hx474_0 : ¬ e_2 = 0 → fSp pf cf L nc 1 e_3 e_4 e_5 e_8 := hx474_0
    have hx474_1 : ¬ e_9 = 0 → fSp pf cf L nc 0 e_10 e_11 e_12 e_15 := hx474_1
    have hx474_2 : rQ (fun a b c => ¬ ld = 0 ∧ a < 2 ∧ b = 0 ∧ c = 0) (fun a _ _ => bOc pf cf L nc a) (-1) z1 (nI 0) (nI 0) e_1 := hx474_2
    refine W.widen (k := 63 + (rrA / 17) + (rrB / 17) + 10 + ((rl - 1600) / 4800) + (((e_20 - rl) / 4800) + ((e_7 - rrA) / 17) + ((e_14 - rrB) / 17))) (n := 584682 + (2 * rrA + 51000 * (rrA / 51000)) + (2 * rrB + 51000 * (rrB / 51000)) + 11814 + (2 * (rl - 1600)) + ((2 * (e_20 - rl)) + ((2 * e_7 + 51000 * (e_7 / 51000)) - (2 * rrA + 51000 * (rrA / 51000))) + ((2 * e_14 + 51000 * (e_14 / 51000)) - (2 * rrB + 51000 * (rrB / 51000))))) (Nat.le_refl _) (Nat.le_refl _) ?_
    have hP := gq_subP (X' := [(h0, .inr (8, [.ref a, .int (nI tz), .ref r0, .int fp, .int ld, .ref p0, .ref m0, .ref x0, .ref oA, .ref oB, .ref ra, .ref cu])), (a, .inl (cB, 4000, .inl f)), (r0, .inr (6, [.ref d0, .int pv, .int fv, .int lp, .ref k4, .ref k5, .ref k6, .ref k7, .int (nI t), .int tl, .int vr, .int vl])), (k4, .inl (cI, 501, .inl (fun j => nI (Kd j)))), (k5, .inl (cI, 501, .inl sf)), (k6, .inl (cI, 501, .inl nf)), (k7, .inl (cI, 6, .inl (fun j => nI (Tk j)))), (p0, .inr (4, [.int (nI nc), .ref b1, .ref b2, .ref b3])), (b1, .inl (cI, 3, .inl (fun j => nI (L j)))), (b2, .inl (cI, 4, .inl cf)), (b3, .inl (cI, 192, .inl pf)), (d0, .inr (4, [.int (nI ncd), .ref e1, .ref e2, .ref e3])), (e1, .inl (cI, 3, .inl (fun j => nI (Ld j)))), (e2, .inl (cI, 4, .inl cfd)), (e3, .inl (cI, 192, .inl pfd)), (m0, .inr (3, [.ref ms, .int vst, .int (nI vk), .int vm, .ref md])), (ms, .inr (7, [.ref mw])), (mw, .inl (cI, 34, .inl mf)), (md, .inl (cI, 38, .inl vd)), (oA, .inr (2, [.int e_2, .int e_3, .int (nI e_4), .int (nI e_5), .ref e_6])), (e_6, .inl (cI, e_7, .inl e_8)), (oB, .inr (2, [.int e_9, .int e_10, .int (nI e_11), .int (nI e_12), .ref e_13])), (e_13, .inl (cI, e_14, .inl e_15)), (ra, .inr (5, [.int rkn, .int ran, .int rr2, .int rr3, .int rr4, .int (nI rt), .ref a6])), (a6, .inl (cI, 38, .inl rpa)), (cu, .inr (0, [.ref f0, .int (nI lz), .int can, .ref a3l, .int cts, .ref a5t])), (a3l, .inl (cI, 2, .inl lk)), (a5t, .inl (cI, 2, .inl td)), (f0, .inr (4, [.int fc, .ref g1, .ref g2, .ref g3])), (g1, .inl (cI, 3, .inl (fun j => nI (FL j)))), (g2, .inl (cI, 4, .inl fcf)), (g3, .inl (cI, 192, .inl fpf)), (x0, .inr (1, [.int e_16, .int e_17, .ref a2, .ref a3, .ref s4, .ref s5, .int e_18, .ref e_19, .ref a8, .ref a9])), (s4, .inr (7, [.ref w4])), (w4, .inl (cI, 34, .inl e_22)), (s5, .inr (7, [.ref w5])), (w5, .inl (cI, 34, .inl e_23)), (a2, .inl (cI, 3000, .inl e_24)), (e_19, .inl (cI, e_20, .inl e_21)), (a8, .inl (cI, 4096, .inl e_25)), (a9, .inl (cI, 3000, .inl e_26)), (a3, .inl (cI, 38, .inl e_27))]) hP [23, 0, 1, 2, 3, 4, 5, 38, 39, 40, 41, 6, 7, 8, 9, 10, 11, 12, 13, 24, 25, 26, 27, 14, 15, 16, 17, 18, 19, 20, 21, 22, 28, 29, 30, 31, 32, 33, 34, 35, 36, 37] rfl
    have hD := gq_subD (X' := [(h0, .inr (8, [.ref a, .int (nI tz), .ref r0, .int fp, .int ld, .ref p0, .ref m0, .ref x0, .ref oA, .ref oB, .ref ra, .ref cu])), (a, .inl (cB, 4000, .inl f)), (r0, .inr (6, [.ref d0, .int pv, .int fv, .int lp, .ref k4, .ref k5, .ref k6, .ref k7, .int (nI t), .int tl, .int vr, .int vl])), (k4, .inl (cI, 501, .inl (fun j => nI (Kd j)))), (k5, .inl (cI, 501, .inl sf)), (k6, .inl (cI, 501, .inl nf)), (k7, .inl (cI, 6, .inl (fun j => nI (Tk j)))), (p0, .inr (4, [.int (nI nc), .ref b1, .ref b2, .ref b3])), (b1, .inl (cI, 3, .inl (fun j => nI (L j)))), (b2, .inl (cI, 4, .inl cf)), (b3, .inl (cI, 192, .inl pf)), (d0, .inr (4, [.int (nI ncd), .ref e1, .ref e2, .ref e3])), (e1, .inl (cI, 3, .inl (fun j => nI (Ld j)))), (e2, .inl (cI, 4, .inl cfd)), (e3, .inl (cI, 192, .inl pfd)), (m0, .inr (3, [.ref ms, .int vst, .int (nI vk), .int vm, .ref md])), (ms, .inr (7, [.ref mw])), (mw, .inl (cI, 34, .inl mf)), (md, .inl (cI, 38, .inl vd)), (oA, .inr (2, [.int e_2, .int e_3, .int (nI e_4), .int (nI e_5), .ref e_6])), (e_6, .inl (cI, e_7, .inl e_8)), (oB, .inr (2, [.int e_9, .int e_10, .int (nI e_11), .int (nI e_12), .ref e_13])), (e_13, .inl (cI, e_14, .inl e_15)), (ra, .inr (5, [.int rkn, .int ran, .int rr2, .int rr3, .int rr4, .int (nI rt), .ref a6])), (a6, .inl (cI, 38, .inl rpa)), (cu, .inr (0, [.ref f0, .int (nI lz), .int can, .ref a3l, .int cts, .ref a5t])), (a3l, .inl (cI, 2, .inl lk)), (a5t, .inl (cI, 2, .inl td)), (f0, .inr (4, [.int fc, .ref g1, .ref g2, .ref g3])), (g1, .inl (cI, 3, .inl (fun j => nI (FL j)))), (g2, .inl (cI, 4, .inl fcf)), (g3, .inl (cI, 192, .inl fpf)), (x0, .inr (1, [.int e_16, .int e_17, .ref a2, .ref a3, .ref s4, .ref s5, .int e_18, .ref e_19, .ref a8, .ref a9])), (s4, .inr (7, [.ref w4])), (w4, .inl (cI, 34, .inl e_22)), (s5, .inr (7, [.ref w5])), (w5, .inl (cI, 34, .inl e_23)), (a2, .inl (cI, 3000, .inl e_24)), (e_19, .inl (cI, e_20, .inl e_21)), (a8, .inl (cI, 4096, .inl e_25)), (a9, .inl (cI, 3000, .inl e_26)), (a3, .inl (cI, 38, .inl e_27))]) hD [23, 0, 1, 2, 3, 4, 5, 38, 39, 40, 41, 6, 7, 8, 9, 10, 11, 12, 13, 24, 25, 26, 27, 14, 15, 16, 17, 18, 19, 20, 21, 22, 28, 29, 30, 31, 32, 33, 34, 35, 36, 37] (by decide) rfl
    refine W.widen (k := 63 + (e_7 / 17) + (e_14 / 17) + 10 + ((e_20 - 1600) / 4800)) (n := 584682 + (2 * e_7 + 51000 * (e_7 / 51000)) + (2 * e_14 + 51000 * (e_14 / 51000)) + 11814 + (2 * (e_20 - 1600))) (gq_wE (hq_29).1 hrA.2 (hq_29).2.2 (hq_31).1 hrB.2 (hq_31).2.2 hq_32 hrm.1).1 (gq_wE (hq_29).1 hrA.2 (hq_29).2.2 (hq_31).1 hrB.2 (hq_31).2.2 hq_32 hrm.1).2 ?_
    exact kk e_1 _ tz f fp ld nc L cf pf vst vk vm vd _ _ H locs (Or.inr (HallE_mk cI cB cZ h0 tz f fp ld nc L cf pf vst vk vm vd a r0 k4 k5 k6 k7 p0 b1 b2 b3 d0 e1 e2 e3 m0 ms mw md oA oB ra a6 cu f0 g1 g2 g3 a3l a5t pv fv lp t tl vr vl Kd sf nf Tk ncd Ld cfd pfd mf e_2 e_3 e_4 e_5 e_6 e_7 e_8 e_9 e_10 e_11 e_12 e_13 e_14 e_15 rkn ran rr2 rr3 rr4 rt rpa lz can cts td lk fc FL fcf fpf x0 a2 s4 w4 s5 w5 a8 a9 a3 e_16 e_17 e_18 e_19 e_20 e_21 e_22 e_23 e_24 e_25 e_26 e_27 htz hR hTk hgo hmk hM hq_28 ⟨Nat.le_trans hrA.1 (hq_29).1, (hq_29).2.2⟩ (hq_29).2.1 hq_30 ⟨Nat.le_trans hrB.1 (hq_31).1, (hq_31).2.2⟩ (hq_31).2.1 hrt hlz hCm (hq_33).1 ⟨Nat.le_trans hrm.1 hq_32, (hq_33).2⟩ hx474_0 hx474_1)) ⟨⟨hx474_2, hgo⟩, rfl, rfl, rfl, rfl, rfl, rfl, rfl, rfl, rfl, rfl, rfl, rfl⟩ hP hD hS
set_option maxHeartbeats 4000000 in
set_option maxRecDepth 100000 in
theorem hl_outcome {p : Program} {l : Launch} {e : Env} {s : State} {m : MethodId} {below : List Frame} {meth : Method} {c : Code} {b : Nat} {A : Nat → Prop} {Q : State → Prop} {D : va_G} {cI cB cZ : ClassId} {K : gKS} (G : gL p s m c b A D cI cB cZ K) {H : Heap} {locs : List Loc} {ls : Array Slot} {w8 w9 : va_W} {h0 tz kc ns : Nat} {f : Nat → Int32} {fp ld : Int32} {nc : Nat} {L : Nat → Nat} {cf : Nat → Int32} {pf : Nat → Int32} {vst : Int32} {vk : Nat} {vm : Int32} {vd : Nat → Int32} (hH : HallI cI cB cZ h0 w8 tz f fp ld nc L cf pf vst vk vm vd kc ns) (hP : va_P D vwCl (w8 ++ w9) H) (hD : va_D A (w8 ++ w9)) (hS : va_S A s.heap H locs) (hl : ls.size = 4 ∧ True) (hsk : ¬ ld = 0 → bSk pf L nc) (z1 : Int32) (z2 : Int32) (z3 : Int32) (kk : ∀ (r : Int32) (w8' : va_W) (tz9 : Nat) (f9 : Nat → Int32) (fp9 ld9 : Int32) (nc9 : Nat) (L9 : Nat → Nat) (cf9 : Nat → Int32) (pf9 : Nat → Int32) (vst9 : Int32) (vk9 : Nat) (vm9 : Int32) (vd9 : Nat → Int32) (kc9 ns9 : Nat) (H1 : Heap) (locs1 : List Loc), HallI cI cB cZ h0 w8' tz9 f9 fp9 ld9 nc9 L9 cf9 pf9 vst9 vk9 vm9 vd9 kc9 ns9 → (((rOc pf cf L nc ld z1 z2 z3 r) ∧ nc ≤ 3 ∧ (∀ j, j < 3 → L j ≤ 6) ∧ gG L pf 5) ∧ tz = tz9 ∧ f = f9 ∧ fp = fp9 ∧ ld = ld9 ∧ nc = nc9 ∧ L = L9 ∧ cf = cf9 ∧ pf = pf9 ∧ vst = vst9 ∧ vk = vk9 ∧ vm = vm9 ∧ vd = vd9) → va_P D vwCl (w8' ++ w9) H1 → va_D A (w8' ++ w9) → va_S A s.heap H1 locs1 → W p l e room_1 s m #[Value.ref b] below meth c H1 locs1 kc9 ns9 Q (F0 m 510 ls [.int r])) : W p l e room_1 s m #[Value.ref b] below meth c H locs kc ns Q (F0 m 507 ls [.int z3, .int z2, .int z1, .ref h0]) := by
  obtain ⟨hx, hb, hml, hown, hts, hA, hK, hN, hE⟩ := G
  rcases hH with hH | hH
  · refine HallN_el hH (fun a r0 k4 k5 k6 k7 p0 b1 b2 b3 d0 e1 e2 e3 m0 ms mw md oA oB ra a6 cu f0 g1 g2 g3 a3l a5t pv fv lp t tl vr vl Kd sf nf Tk ncd Ld cfd pfd mf flA stA sA bA rrA recA flB stB sB bB rrB recB ran rr2 rr3 rr4 rt rpa lz can cts td lk fc FL fcf fpf htz hR hTk hgo hmk hM hsA hrA hmA hsB hrB hmB hrt hlz hCm hk9 hn9 hw9 => ?_)
    clear hH
    subst hk9; subst hn9; subst hw9
    obtain ⟨hc, hL6, hI5⟩ := id hgo
    have hL := gL6_8 hL6
    have hI := gG_up (b' := 7) hI5 (by decide)
    have hbG : ¬ ld = 0 → bG pf L nc := fun h => bG_mk hgo (hsk h)
    have hkb := gq_kN hmA hmB
    refine gq_gowi (post := po_x_outcomeN cI cB cZ h0 oA oB ld (.ref a) (.int (nI tz)) (.ref r0) (.int fp) (.ref m0) (.ref ra) (.ref cu) p0 b1 b2 b3 nc L cf pf flA stA sA bA rrA recA flB stB sB bB rrB recB z1 z2 z3) (wc := [(h0, .inr (8, [.ref a, .int (nI tz), .ref r0, .int fp, .int ld, .ref p0, .ref m0, .null, .ref oA, .ref oB, .ref ra, .ref cu])), (oA, .inr (2, [.int 0, .int flA, .int (nI stA), .int (nI sA), .ref bA])), (bA, .inl (cI, rrA, .inl recA)), (oB, .inr (2, [.int 0, .int flB, .int (nI stB), .int (nI sB), .ref bB])), (bB, .inl (cI, rrB, .inl recB)), (p0, .inr (4, [.int (nI nc), .ref b1, .ref b2, .ref b3])), (b1, .inl (cI, 3, .inl (fun j => nI (L j)))), (b2, .inl (cI, 4, .inl cf)), (b3, .inl (cI, 192, .inl pf))]) (wr := [(a, .inl (cB, 4000, .inl f)), (r0, .inr (6, [.ref d0, .int pv, .int fv, .int lp, .ref k4, .ref k5, .ref k6, .ref k7, .int (nI t), .int tl, .int vr, .int vl])), (k4, .inl (cI, 501, .inl (fun j => nI (Kd j)))), (k5, .inl (cI, 501, .inl sf)), (k6, .inl (cI, 501, .inl nf)), (k7, .inl (cI, 6, .inl (fun j => nI (Tk j)))), (d0, .inr (4, [.int (nI ncd), .ref e1, .ref e2, .ref e3])), (e1, .inl (cI, 3, .inl (fun j => nI (Ld j)))), (e2, .inl (cI, 4, .inl cfd)), (e3, .inl (cI, 192, .inl pfd)), (m0, .inr (3, [.ref ms, .int vst, .int (nI vk), .int vm, .ref md])), (ms, .inr (7, [.ref mw])), (mw, .inl (cI, 34, .inl mf)), (md, .inl (cI, 38, .inl vd)), (ra, .inr (5, [.int 0, .int ran, .int rr2, .int rr3, .int rr4, .int (nI rt), .ref a6])), (a6, .inl (cI, 38, .inl rpa)), (cu, .inr (0, [.ref f0, .int (nI lz), .int can, .ref a3l, .int cts, .ref a5t])), (a3l, .inl (cI, 2, .inl lk)), (a5t, .inl (cI, 2, .inl td)), (f0, .inr (4, [.int fc, .ref g1, .ref g2, .ref g3])), (g1, .inl (cI, 3, .inl (fun j => nI (FL j)))), (g2, .inl (cI, 4, .inl fcf)), (g3, .inl (cI, 192, .inl fpf))]) (va_runV (As := [.int z1, .int z2, .int z3]) (rest := []) ⟨hx, hb, hml, hown, hts⟩ (x_outcomeN l D cI cB cZ h0 oA oB ld (.ref a) (.int (nI tz)) (.ref r0) (.int fp) (.ref m0) (.ref ra) (.ref cu) p0 b1 b2 b3 nc L cf pf flA stA sA bA rrA recA flB stB sB bB rrB recB z1 z2 z3 hc hL6 hI5 hsA hrA hmA hsB hrB hmB hbG _ _) (cwV 3 hts gP_law__x_outcomeN rfl rfl rfl (by decide +kernel) ⟨Nat.le_of_ble_eq_true rfl, Nat.le_of_ble_eq_true rfl⟩) (gw_preV (ci := 8) (q0 := 0) hK (hN.sub (by decide +kernel)) (gq_Pl hP) (gq_Dl hD) [0, 19, 20, 21, 22, 7, 8, 9, 10] rfl rfl rfl rfl) rfl rfl hl.1 rfl (lv_room (Nat.le_of_ble_eq_true rfl)) dL_law_507 ⟨(Nat.le_trans (Nat.add_le_add_right hkb.1 _) (Nat.le_of_ble_eq_true rfl)), (Nat.le_trans (Nat.add_le_add_right hkb.2 _) (Nat.le_of_ble_eq_true rfl))⟩) hP hD hS hA [0, 19, 20, 21, 22, 7, 8, 9, 10] [1, 2, 3, 4, 5, 6, 11, 12, 13, 14, 15, 16, 17, 18, 23, 24, 25, 26, 27, 28, 29, 30, 31] rfl rfl rfl (by decide) (fun r1 w1 k1 n1 H locs hp hP hD hS => ?_)
    rcases hp with hp | hp
    · obtain ⟨e_1, hp⟩ := hp
      obtain ⟨hx507_0, hp⟩ := hp
      obtain ⟨hk1, hp⟩ := hp
      obtain ⟨hn1, hp⟩ := hp
      obtain ⟨h9, hp⟩ := hp
      subst hp
      have hk1 := hk1.symm; subst hk1; have hn1 := hn1.symm; subst hn1
      have h9 := h9.symm
      subst h9
      have hx507_0 : rOc pf cf L nc ld z1 z2 z3 e_1 := hx507_0
      refine W.widen (k := 63 + (rrA / 17) + (rrB / 17) + (0)) (n := 584682 + (2 * rrA + 51000 * (rrA / 51000)) + (2 * rrB + 51000 * (rrB / 51000)) + (0)) (Nat.le_refl _) (Nat.le_refl _) ?_
      have hP := gq_subP (X' := [(h0, .inr (8, [.ref a, .int (nI tz), .ref r0, .int fp, .int ld, .ref p0, .ref m0, .null, .ref oA, .ref oB, .ref ra, .ref cu])), (a, .inl (cB, 4000, .inl f)), (r0, .inr (6, [.ref d0, .int pv, .int fv, .int lp, .ref k4, .ref k5, .ref k6, .ref k7, .int (nI t), .int tl, .int vr, .int vl])), (k4, .inl (cI, 501, .inl (fun j => nI (Kd j)))), (k5, .inl (cI, 501, .inl sf)), (k6, .inl (cI, 501, .inl nf)), (k7, .inl (cI, 6, .inl (fun j => nI (Tk j)))), (p0, .inr (4, [.int (nI nc), .ref b1, .ref b2, .ref b3])), (b1, .inl (cI, 3, .inl (fun j => nI (L j)))), (b2, .inl (cI, 4, .inl cf)), (b3, .inl (cI, 192, .inl pf)), (d0, .inr (4, [.int (nI ncd), .ref e1, .ref e2, .ref e3])), (e1, .inl (cI, 3, .inl (fun j => nI (Ld j)))), (e2, .inl (cI, 4, .inl cfd)), (e3, .inl (cI, 192, .inl pfd)), (m0, .inr (3, [.ref ms, .int vst, .int (nI vk), .int vm, .ref md])), (ms, .inr (7, [.ref mw])), (mw, .inl (cI, 34, .inl mf)), (md, .inl (cI, 38, .inl vd)), (oA, .inr (2, [.int 0, .int flA, .int (nI stA), .int (nI sA), .ref bA])), (bA, .inl (cI, rrA, .inl recA)), (oB, .inr (2, [.int 0, .int flB, .int (nI stB), .int (nI sB), .ref bB])), (bB, .inl (cI, rrB, .inl recB)), (ra, .inr (5, [.int 0, .int ran, .int rr2, .int rr3, .int rr4, .int (nI rt), .ref a6])), (a6, .inl (cI, 38, .inl rpa)), (cu, .inr (0, [.ref f0, .int (nI lz), .int can, .ref a3l, .int cts, .ref a5t])), (a3l, .inl (cI, 2, .inl lk)), (a5t, .inl (cI, 2, .inl td)), (f0, .inr (4, [.int fc, .ref g1, .ref g2, .ref g3])), (g1, .inl (cI, 3, .inl (fun j => nI (FL j)))), (g2, .inl (cI, 4, .inl fcf)), (g3, .inl (cI, 192, .inl fpf))]) hP [23, 0, 1, 2, 3, 4, 5, 28, 29, 30, 31, 6, 7, 8, 9, 10, 11, 12, 13, 24, 25, 26, 27, 14, 15, 16, 17, 18, 19, 20, 21, 22] rfl
      have hD := gq_subD (X' := [(h0, .inr (8, [.ref a, .int (nI tz), .ref r0, .int fp, .int ld, .ref p0, .ref m0, .null, .ref oA, .ref oB, .ref ra, .ref cu])), (a, .inl (cB, 4000, .inl f)), (r0, .inr (6, [.ref d0, .int pv, .int fv, .int lp, .ref k4, .ref k5, .ref k6, .ref k7, .int (nI t), .int tl, .int vr, .int vl])), (k4, .inl (cI, 501, .inl (fun j => nI (Kd j)))), (k5, .inl (cI, 501, .inl sf)), (k6, .inl (cI, 501, .inl nf)), (k7, .inl (cI, 6, .inl (fun j => nI (Tk j)))), (p0, .inr (4, [.int (nI nc), .ref b1, .ref b2, .ref b3])), (b1, .inl (cI, 3, .inl (fun j => nI (L j)))), (b2, .inl (cI, 4, .inl cf)), (b3, .inl (cI, 192, .inl pf)), (d0, .inr (4, [.int (nI ncd), .ref e1, .ref e2, .ref e3])), (e1, .inl (cI, 3, .inl (fun j => nI (Ld j)))), (e2, .inl (cI, 4, .inl cfd)), (e3, .inl (cI, 192, .inl pfd)), (m0, .inr (3, [.ref ms, .int vst, .int (nI vk), .int vm, .ref md])), (ms, .inr (7, [.ref mw])), (mw, .inl (cI, 34, .inl mf)), (md, .inl (cI, 38, .inl vd)), (oA, .inr (2, [.int 0, .int flA, .int (nI stA), .int (nI sA), .ref bA])), (bA, .inl (cI, rrA, .inl recA)), (oB, .inr (2, [.int 0, .int flB, .int (nI stB), .int (nI sB), .ref bB])), (bB, .inl (cI, rrB, .inl recB)), (ra, .inr (5, [.int 0, .int ran, .int rr2, .int rr3, .int rr4, .int (nI rt), .ref a6])), (a6, .inl (cI, 38, .inl rpa)), (cu, .inr (0, [.ref f0, .int (nI lz), .int can, .ref a3l, .int cts, .ref a5t])), (a3l, .inl (cI, 2, .inl lk)), (a5t, .inl (cI, 2, .inl td)), (f0, .inr (4, [.int fc, .ref g1, .ref g2, .ref g3])), (g1, .inl (cI, 3, .inl (fun j => nI (FL j)))), (g2, .inl (cI, 4, .inl fcf)), (g3, .inl (cI, 192, .inl fpf))]) hD [23, 0, 1, 2, 3, 4, 5, 28, 29, 30, 31, 6, 7, 8, 9, 10, 11, 12, 13, 24, 25, 26, 27, 14, 15, 16, 17, 18, 19, 20, 21, 22] (by decide) rfl
      exact kk e_1 _ tz f fp ld nc L cf pf vst vk vm vd _ _ H locs (Or.inl (HallN_mk cI cB cZ h0 tz f fp ld nc L cf pf vst vk vm vd a r0 k4 k5 k6 k7 p0 b1 b2 b3 d0 e1 e2 e3 m0 ms mw md oA oB ra a6 cu f0 g1 g2 g3 a3l a5t pv fv lp t tl vr vl Kd sf nf Tk ncd Ld cfd pfd mf flA stA sA bA rrA recA flB stB sB bB rrB recB ran rr2 rr3 rr4 rt rpa lz can cts td lk fc FL fcf fpf htz hR hTk hgo hmk hM hsA hrA hmA hsB hrB hmB hrt hlz hCm)) ⟨⟨hx507_0, hgo⟩, rfl, rfl, rfl, rfl, rfl, rfl, rfl, rfl, rfl, rfl, rfl, rfl⟩ hP hD hS
    · obtain ⟨e_2, hp⟩ := hp
      obtain ⟨e_3, hp⟩ := hp
      obtain ⟨e_4, hp⟩ := hp
      obtain ⟨e_5, hp⟩ := hp
      obtain ⟨e_6, hp⟩ := hp
      obtain ⟨e_7, hp⟩ := hp
      obtain ⟨e_8, hp⟩ := hp
      obtain ⟨e_9, hp⟩ := hp
      obtain ⟨e_10, hp⟩ := hp
      obtain ⟨e_11, hp⟩ := hp
      obtain ⟨e_12, hp⟩ := hp
      obtain ⟨e_13, hp⟩ := hp
      obtain ⟨e_14, hp⟩ := hp
      obtain ⟨e_15, hp⟩ := hp
      obtain ⟨e_16, hp⟩ := hp
      obtain ⟨e_17, hp⟩ := hp
      obtain ⟨e_18, hp⟩ := hp
      obtain ⟨e_19, hp⟩ := hp
      obtain ⟨e_20, hp⟩ := hp
      obtain ⟨e_21, hp⟩ := hp
      obtain ⟨e_22, hp⟩ := hp
      obtain ⟨e_23, hp⟩ := hp
      obtain ⟨e_24, hp⟩ := hp
      obtain ⟨e_25, hp⟩ := hp
      obtain ⟨e_26, hp⟩ := hp
      obtain ⟨e_27, hp⟩ := hp
      obtain ⟨e_28, hp⟩ := hp
      obtain ⟨e_29, hp⟩ := hp
      obtain ⟨e_30, hp⟩ := hp
      obtain ⟨e_31, hp⟩ := hp
      obtain ⟨e_32, hp⟩ := hp
      obtain ⟨e_33, hp⟩ := hp
      obtain ⟨e_34, hp⟩ := hp
      obtain ⟨e_35, hp⟩ := hp
      obtain ⟨e_36, hp⟩ := hp
      obtain ⟨e_37, hp⟩ := hp
      obtain ⟨hq_38, hp⟩ := hp
      obtain ⟨hq_39, hp⟩ := hp
      obtain ⟨hq_40, hp⟩ := hp
      obtain ⟨hq_41, hp⟩ := hp
      obtain ⟨hq_42, hp⟩ := hp
      obtain ⟨hx507_0, hp⟩ := hp
      obtain ⟨hx507_1, hp⟩ := hp
      obtain ⟨hx507_2, hp⟩ := hp
      obtain ⟨hk1, hp⟩ := hp
      obtain ⟨hn1, hp⟩ := hp
      obtain ⟨h9, hp⟩ := hp
      subst hp
      have hk1 := hk1.symm; subst hk1; have hn1 := hn1.symm; subst hn1
      have h9 := h9.symm
      subst h9
      have hq_38 : e_15 * 17 ≤ e_17 := hq_38
      have hq_39 : rrA ≤ e_17 ∧ e_17 ≤ 51000 ∧ e_17 % 17 = 0 := hq_39
      have hq_40 : e_22 * 17 ≤ e_24 := hq_40
      have hq_41 : rrB ≤ e_24 ∧ e_24 ≤ 51000 ∧ e_24 % 17 = 0 := hq_41
      have hq_42 : gRl e_30 ∧ 1600 ≤ e_30 ∧ e_30 ≤ 102000 := hq_42
      have hx507_0 : ¬ e_12 = 0 → fSp pf cf L nc 1 e_13 e_14 e_15 e_18 := hx507_0
      have hx507_1 : ¬ e_19 = 0 → fSp pf cf L nc 0 e_20 e_21 e_22 e_25 := hx507_1
      have hx507_2 : rOc pf cf L nc ld z1 z2 z3 e_2 := hx507_2
      refine W.widen (k := 63 + (rrA / 17) + (rrB / 17) + (10 + ((e_30 - 1600) / 4800) + ((e_17 - rrA) / 17) + ((e_24 - rrB) / 17))) (n := 584682 + (2 * rrA + 51000 * (rrA / 51000)) + (2 * rrB + 51000 * (rrB / 51000)) + (11814 + (2 * (e_30 - 1600)) + ((2 * e_17 + 51000 * (e_17 / 51000)) - (2 * rrA + 51000 * (rrA / 51000))) + ((2 * e_24 + 51000 * (e_24 / 51000)) - (2 * rrB + 51000 * (rrB / 51000))))) (Nat.le_refl _) (Nat.le_refl _) ?_
      have hP := gq_subP (X' := [(h0, .inr (8, [.ref a, .int (nI tz), .ref r0, .int fp, .int ld, .ref p0, .ref m0, .ref e_3, .ref oA, .ref oB, .ref ra, .ref cu])), (a, .inl (cB, 4000, .inl f)), (r0, .inr (6, [.ref d0, .int pv, .int fv, .int lp, .ref k4, .ref k5, .ref k6, .ref k7, .int (nI t), .int tl, .int vr, .int vl])), (k4, .inl (cI, 501, .inl (fun j => nI (Kd j)))), (k5, .inl (cI, 501, .inl sf)), (k6, .inl (cI, 501, .inl nf)), (k7, .inl (cI, 6, .inl (fun j => nI (Tk j)))), (p0, .inr (4, [.int (nI nc), .ref b1, .ref b2, .ref b3])), (b1, .inl (cI, 3, .inl (fun j => nI (L j)))), (b2, .inl (cI, 4, .inl cf)), (b3, .inl (cI, 192, .inl pf)), (d0, .inr (4, [.int (nI ncd), .ref e1, .ref e2, .ref e3])), (e1, .inl (cI, 3, .inl (fun j => nI (Ld j)))), (e2, .inl (cI, 4, .inl cfd)), (e3, .inl (cI, 192, .inl pfd)), (m0, .inr (3, [.ref ms, .int vst, .int (nI vk), .int vm, .ref md])), (ms, .inr (7, [.ref mw])), (mw, .inl (cI, 34, .inl mf)), (md, .inl (cI, 38, .inl vd)), (oA, .inr (2, [.int e_12, .int e_13, .int (nI e_14), .int (nI e_15), .ref e_16])), (e_16, .inl (cI, e_17, .inl e_18)), (oB, .inr (2, [.int e_19, .int e_20, .int (nI e_21), .int (nI e_22), .ref e_23])), (e_23, .inl (cI, e_24, .inl e_25)), (ra, .inr (5, [.int 0, .int ran, .int rr2, .int rr3, .int rr4, .int (nI rt), .ref a6])), (a6, .inl (cI, 38, .inl rpa)), (cu, .inr (0, [.ref f0, .int (nI lz), .int can, .ref a3l, .int cts, .ref a5t])), (a3l, .inl (cI, 2, .inl lk)), (a5t, .inl (cI, 2, .inl td)), (f0, .inr (4, [.int fc, .ref g1, .ref g2, .ref g3])), (g1, .inl (cI, 3, .inl (fun j => nI (FL j)))), (g2, .inl (cI, 4, .inl fcf)), (g3, .inl (cI, 192, .inl fpf)), (e_3, .inr (1, [.int e_26, .int e_27, .ref e_4, .ref e_11, .ref e_5, .ref e_7, .int e_28, .ref e_29, .ref e_9, .ref e_10])), (e_5, .inr (7, [.ref e_6])), (e_6, .inl (cI, 34, .inl e_32)), (e_7, .inr (7, [.ref e_8])), (e_8, .inl (cI, 34, .inl e_33)), (e_4, .inl (cI, 3000, .inl e_34)), (e_29, .inl (cI, e_30, .inl e_31)), (e_9, .inl (cI, 4096, .inl e_35)), (e_10, .inl (cI, 3000, .inl e_36)), (e_11, .inl (cI, 38, .inl e_37))]) hP [23, 0, 1, 2, 3, 4, 5, 38, 39, 40, 41, 6, 7, 8, 9, 10, 11, 12, 13, 24, 25, 26, 27, 14, 15, 16, 17, 18, 19, 20, 21, 22, 28, 29, 30, 31, 32, 33, 34, 35, 36, 37] rfl
      have hD := gq_subD (X' := [(h0, .inr (8, [.ref a, .int (nI tz), .ref r0, .int fp, .int ld, .ref p0, .ref m0, .ref e_3, .ref oA, .ref oB, .ref ra, .ref cu])), (a, .inl (cB, 4000, .inl f)), (r0, .inr (6, [.ref d0, .int pv, .int fv, .int lp, .ref k4, .ref k5, .ref k6, .ref k7, .int (nI t), .int tl, .int vr, .int vl])), (k4, .inl (cI, 501, .inl (fun j => nI (Kd j)))), (k5, .inl (cI, 501, .inl sf)), (k6, .inl (cI, 501, .inl nf)), (k7, .inl (cI, 6, .inl (fun j => nI (Tk j)))), (p0, .inr (4, [.int (nI nc), .ref b1, .ref b2, .ref b3])), (b1, .inl (cI, 3, .inl (fun j => nI (L j)))), (b2, .inl (cI, 4, .inl cf)), (b3, .inl (cI, 192, .inl pf)), (d0, .inr (4, [.int (nI ncd), .ref e1, .ref e2, .ref e3])), (e1, .inl (cI, 3, .inl (fun j => nI (Ld j)))), (e2, .inl (cI, 4, .inl cfd)), (e3, .inl (cI, 192, .inl pfd)), (m0, .inr (3, [.ref ms, .int vst, .int (nI vk), .int vm, .ref md])), (ms, .inr (7, [.ref mw])), (mw, .inl (cI, 34, .inl mf)), (md, .inl (cI, 38, .inl vd)), (oA, .inr (2, [.int e_12, .int e_13, .int (nI e_14), .int (nI e_15), .ref e_16])), (e_16, .inl (cI, e_17, .inl e_18)), (oB, .inr (2, [.int e_19, .int e_20, .int (nI e_21), .int (nI e_22), .ref e_23])), (e_23, .inl (cI, e_24, .inl e_25)), (ra, .inr (5, [.int 0, .int ran, .int rr2, .int rr3, .int rr4, .int (nI rt), .ref a6])), (a6, .inl (cI, 38, .inl rpa)), (cu, .inr (0, [.ref f0, .int (nI lz), .int can, .ref a3l, .int cts, .ref a5t])), (a3l, .inl (cI, 2, .inl lk)), (a5t, .inl (cI, 2, .inl td)), (f0, .inr (4, [.int fc, .ref g1, .ref g2, .ref g3])), (g1, .inl (cI, 3, .inl (fun j => nI (FL j)))), (g2, .inl (cI, 4, .inl fcf)), (g3, .inl (cI, 192, .inl fpf)), (e_3, .inr (1, [.int e_26, .int e_27, .ref e_4, .ref e_11, .ref e_5, .ref e_7, .int e_28, .ref e_29, .ref e_9, .ref e_10])), (e_5, .inr (7, [.ref e_6])), (e_6, .inl (cI, 34, .inl e_32)), (e_7, .inr (7, [.ref e_8])), (e_8, .inl (cI, 34, .inl e_33)), (e_4, .inl (cI, 3000, .inl e_34)), (e_29, .inl (cI, e_30, .inl e_31)), (e_9, .inl (cI, 4096, .inl e_35)), (e_10, .inl (cI, 3000, .inl e_36)), (e_11, .inl (cI, 38, .inl e_37))]) hD [23, 0, 1, 2, 3, 4, 5, 38, 39, 40, 41, 6, 7, 8, 9, 10, 11, 12, 13, 24, 25, 26, 27, 14, 15, 16, 17, 18, 19, 20, 21, 22, 28, 29, 30, 31, 32, 33, 34, 35, 36, 37] (by decide) rfl
      refine W.widen (k := 63 + (e_17 / 17) + (e_24 / 17) + 10 + ((e_30 - 1600) / 4800)) (n := 584682 + (2 * e_17 + 51000 * (e_17 / 51000)) + (2 * e_24 + 51000 * (e_24 / 51000)) + 11814 + (2 * (e_30 - 1600))) (gq_wN (hq_39).1 hrA.2 (hq_39).2.2 (hq_41).1 hrB.2 (hq_41).2.2).1 (gq_wN (hq_39).1 hrA.2 (hq_39).2.2 (hq_41).1 hrB.2 (hq_41).2.2).2 ?_
      exact kk e_2 _ tz f fp ld nc L cf pf vst vk vm vd _ _ H locs (Or.inr (HallE_mk cI cB cZ h0 tz f fp ld nc L cf pf vst vk vm vd a r0 k4 k5 k6 k7 p0 b1 b2 b3 d0 e1 e2 e3 m0 ms mw md oA oB ra a6 cu f0 g1 g2 g3 a3l a5t pv fv lp t tl vr vl Kd sf nf Tk ncd Ld cfd pfd mf e_12 e_13 e_14 e_15 e_16 e_17 e_18 e_19 e_20 e_21 e_22 e_23 e_24 e_25 0 ran rr2 rr3 rr4 rt rpa lz can cts td lk fc FL fcf fpf e_3 e_4 e_5 e_6 e_7 e_8 e_9 e_10 e_11 e_26 e_27 e_28 e_29 e_30 e_31 e_32 e_33 e_34 e_35 e_36 e_37 htz hR hTk hgo hmk hM hq_38 ⟨Nat.le_trans hrA.1 (hq_39).1, (hq_39).2.2⟩ (hq_39).2.1 hq_40 ⟨Nat.le_trans hrB.1 (hq_41).1, (hq_41).2.2⟩ (hq_41).2.1 hrt hlz hCm (hq_42).1 (hq_42).2 hx507_0 hx507_1)) ⟨⟨hx507_2, hgo⟩, rfl, rfl, rfl, rfl, rfl, rfl, rfl, rfl, rfl, rfl, rfl, rfl⟩ hP hD hS
  · refine HallE_el hH (fun a r0 k4 k5 k6 k7 p0 b1 b2 b3 d0 e1 e2 e3 m0 ms mw md oA oB ra a6 cu f0 g1 g2 g3 a3l a5t pv fv lp t tl vr vl Kd sf nf Tk ncd Ld cfd pfd mf knA flA stA sA bA rrA recA knB flB stB sB bB rrB recB rkn ran rr2 rr3 rr4 rt rpa lz can cts td lk fc FL fcf fpf x0 a2 s4 w4 s5 w5 a8 a9 a3 i0 i1 i6 a7 rl rf f4 f5 ef sl cm pp htz hR hTk hgo hmk hM hsA hrA hmA hsB hrB hmB hrt hlz hCm hrl hrm hFA hFB hk9 hn9 hw9 => ?_)
    clear hH
    subst hk9; subst hn9; subst hw9
    obtain ⟨hc, hL6, hI5⟩ := id hgo
    have hL := gL6_8 hL6
    have hI := gG_up (b' := 7) hI5 (by decide)
    have hbG : ¬ ld = 0 → bG pf L nc := fun h => bG_mk hgo (hsk h)
    have hkb := gq_k hmA hmB hrm.2
    refine gq_gowi (post := po_x_outcomeE cI cB cZ h0 oA oB ld (.ref a) (.int (nI tz)) (.ref r0) (.int fp) (.ref m0) (.ref ra) (.ref cu) p0 b1 b2 b3 nc L cf pf knA flA stA sA bA rrA recA knB flB stB sB bB rrB recB x0 a2 s4 w4 s5 w5 a8 a9 a3 i0 i1 i6 a7 rl rf f4 f5 ef sl cm pp z1 z2 z3) (wc := [(h0, .inr (8, [.ref a, .int (nI tz), .ref r0, .int fp, .int ld, .ref p0, .ref m0, .ref x0, .ref oA, .ref oB, .ref ra, .ref cu])), (oA, .inr (2, [.int knA, .int flA, .int (nI stA), .int (nI sA), .ref bA])), (bA, .inl (cI, rrA, .inl recA)), (oB, .inr (2, [.int knB, .int flB, .int (nI stB), .int (nI sB), .ref bB])), (bB, .inl (cI, rrB, .inl recB)), (x0, .inr (1, [.int i0, .int i1, .ref a2, .ref a3, .ref s4, .ref s5, .int i6, .ref a7, .ref a8, .ref a9])), (s4, .inr (7, [.ref w4])), (w4, .inl (cI, 34, .inl f4)), (s5, .inr (7, [.ref w5])), (w5, .inl (cI, 34, .inl f5)), (a2, .inl (cI, 3000, .inl ef)), (a7, .inl (cI, rl, .inl rf)), (a8, .inl (cI, 4096, .inl sl)), (a9, .inl (cI, 3000, .inl cm)), (a3, .inl (cI, 38, .inl pp)), (p0, .inr (4, [.int (nI nc), .ref b1, .ref b2, .ref b3])), (b1, .inl (cI, 3, .inl (fun j => nI (L j)))), (b2, .inl (cI, 4, .inl cf)), (b3, .inl (cI, 192, .inl pf))]) (wr := [(a, .inl (cB, 4000, .inl f)), (r0, .inr (6, [.ref d0, .int pv, .int fv, .int lp, .ref k4, .ref k5, .ref k6, .ref k7, .int (nI t), .int tl, .int vr, .int vl])), (k4, .inl (cI, 501, .inl (fun j => nI (Kd j)))), (k5, .inl (cI, 501, .inl sf)), (k6, .inl (cI, 501, .inl nf)), (k7, .inl (cI, 6, .inl (fun j => nI (Tk j)))), (d0, .inr (4, [.int (nI ncd), .ref e1, .ref e2, .ref e3])), (e1, .inl (cI, 3, .inl (fun j => nI (Ld j)))), (e2, .inl (cI, 4, .inl cfd)), (e3, .inl (cI, 192, .inl pfd)), (m0, .inr (3, [.ref ms, .int vst, .int (nI vk), .int vm, .ref md])), (ms, .inr (7, [.ref mw])), (mw, .inl (cI, 34, .inl mf)), (md, .inl (cI, 38, .inl vd)), (ra, .inr (5, [.int rkn, .int ran, .int rr2, .int rr3, .int rr4, .int (nI rt), .ref a6])), (a6, .inl (cI, 38, .inl rpa)), (cu, .inr (0, [.ref f0, .int (nI lz), .int can, .ref a3l, .int cts, .ref a5t])), (a3l, .inl (cI, 2, .inl lk)), (a5t, .inl (cI, 2, .inl td)), (f0, .inr (4, [.int fc, .ref g1, .ref g2, .ref g3])), (g1, .inl (cI, 3, .inl (fun j => nI (FL j)))), (g2, .inl (cI, 4, .inl fcf)), (g3, .inl (cI, 192, .inl fpf))]) (va_runV (As := [.int z1, .int z2, .int z3]) (rest := []) ⟨hx, hb, hml, hown, hts⟩ (x_outcomeE l D cI cB cZ h0 oA oB ld (.ref a) (.int (nI tz)) (.ref r0) (.int fp) (.ref m0) (.ref ra) (.ref cu) p0 b1 b2 b3 nc L cf pf knA flA stA sA bA rrA recA knB flB stB sB bB rrB recB x0 a2 s4 w4 s5 w5 a8 a9 a3 i0 i1 i6 a7 rl rf f4 f5 ef sl cm pp z1 z2 z3 hc hL6 hI5 hsA hrA hmA hsB hrB hmB hbG hFA hFB hrl hrm _ _) (cwV 3 hts gP_law__x_outcomeE rfl rfl rfl (by decide +kernel) ⟨Nat.le_of_ble_eq_true rfl, Nat.le_of_ble_eq_true rfl⟩) (gw_preV (ci := 8) (q0 := 0) hK gN.nil (gq_Pl hP) (gq_Dl hD) [0, 19, 20, 21, 22, 32, 33, 34, 35, 36, 37, 38, 39, 40, 41, 7, 8, 9, 10] rfl rfl rfl rfl) rfl rfl hl.1 rfl (lv_room (Nat.le_of_ble_eq_true rfl)) dL_law_507 ⟨(Nat.le_trans (Nat.add_le_add_right hkb.1 _) (Nat.le_of_ble_eq_true rfl)), (Nat.le_trans (Nat.add_le_add_right hkb.2 _) (Nat.le_of_ble_eq_true rfl))⟩) hP hD hS hA [0, 19, 20, 21, 22, 32, 33, 34, 35, 36, 37, 38, 39, 40, 41, 7, 8, 9, 10] [1, 2, 3, 4, 5, 6, 11, 12, 13, 14, 15, 16, 17, 18, 23, 24, 25, 26, 27, 28, 29, 30, 31] rfl rfl rfl (by decide) (fun r1 w1 k1 n1 H locs hp hP hD hS => ?_)
    obtain ⟨e_1, hp⟩ := hp
    obtain ⟨e_2, hp⟩ := hp
    obtain ⟨e_3, hp⟩ := hp
    obtain ⟨e_4, hp⟩ := hp
    obtain ⟨e_5, hp⟩ := hp
    obtain ⟨e_6, hp⟩ := hp
    obtain ⟨e_7, hp⟩ := hp
    obtain ⟨e_8, hp⟩ := hp
    obtain ⟨e_9, hp⟩ := hp
    obtain ⟨e_10, hp⟩ := hp
    obtain ⟨e_11, hp⟩ := hp
    obtain ⟨e_12, hp⟩ := hp
    obtain ⟨e_13, hp⟩ := hp
    obtain ⟨e_14, hp⟩ := hp
    obtain ⟨e_15, hp⟩ := hp
    obtain ⟨e_16, hp⟩ := hp
    obtain ⟨e_17, hp⟩ := hp
    obtain ⟨e_18, hp⟩ := hp
    obtain ⟨e_19, hp⟩ := hp
    obtain ⟨e_20, hp⟩ := hp
    obtain ⟨e_21, hp⟩ := hp
    obtain ⟨e_22, hp⟩ := hp
    obtain ⟨e_23, hp⟩ := hp
    obtain ⟨e_24, hp⟩ := hp
    obtain ⟨e_25, hp⟩ := hp
    obtain ⟨e_26, hp⟩ := hp
    obtain ⟨e_27, hp⟩ := hp
    obtain ⟨hq_28, hp⟩ := hp
    obtain ⟨hq_29, hp⟩ := hp
    obtain ⟨hq_30, hp⟩ := hp
    obtain ⟨hq_31, hp⟩ := hp
    obtain ⟨hq_32, hp⟩ := hp
    obtain ⟨hq_33, hp⟩ := hp
    obtain ⟨hx507_0, hp⟩ := hp
    obtain ⟨hx507_1, hp⟩ := hp
    obtain ⟨hx507_2, hp⟩ := hp
    obtain ⟨hk1, hp⟩ := hp
    obtain ⟨hn1, hp⟩ := hp
    obtain ⟨h9, hp⟩ := hp
    subst hp
    have hk1 := hk1.symm; subst hk1; have hn1 := hn1.symm; subst hn1
    have h9 := h9.symm
    subst h9
    have hq_28 : e_5 * 17 ≤ e_7 := hq_28
    have hq_29 : rrA ≤ e_7 ∧ e_7 ≤ 51000 ∧ e_7 % 17 = 0 := hq_29
    have hq_30 : e_12 * 17 ≤ e_14 := hq_30
    have hq_31 : rrB ≤ e_14 ∧ e_14 ≤ 51000 ∧ e_14 % 17 = 0 := hq_31
    have hq_32 : rl ≤ e_20 := hq_32
    have hq_33 : gRl e_20 ∧ e_20 ≤ 102000 := hq_33
    have hx507_0 : ¬ e_2 = 0 → fSp pf cf L nc 1 e_3 e_4 e_5 e_8 := hx507_0
    have hx507_1 : ¬ e_9 = 0 → fSp pf cf L nc 0 e_10 e_11 e_12 e_15 := hx507_1
    have hx507_2 : rOc pf cf L nc ld z1 z2 z3 e_1 := hx507_2
    refine W.widen (k := 63 + (rrA / 17) + (rrB / 17) + 10 + ((rl - 1600) / 4800) + (((e_20 - rl) / 4800) + ((e_7 - rrA) / 17) + ((e_14 - rrB) / 17))) (n := 584682 + (2 * rrA + 51000 * (rrA / 51000)) + (2 * rrB + 51000 * (rrB / 51000)) + 11814 + (2 * (rl - 1600)) + ((2 * (e_20 - rl)) + ((2 * e_7 + 51000 * (e_7 / 51000)) - (2 * rrA + 51000 * (rrA / 51000))) + ((2 * e_14 + 51000 * (e_14 / 51000)) - (2 * rrB + 51000 * (rrB / 51000))))) (Nat.le_refl _) (Nat.le_refl _) ?_
    have hP := gq_subP (X' := [(h0, .inr (8, [.ref a, .int (nI tz), .ref r0, .int fp, .int ld, .ref p0, .ref m0, .ref x0, .ref oA, .ref oB, .ref ra, .ref cu])), (a, .inl (cB, 4000, .inl f)), (r0, .inr (6, [.ref d0, .int pv, .int fv, .int lp, .ref k4, .ref k5, .ref k6, .ref k7, .int (nI t), .int tl, .int vr, .int vl])), (k4, .inl (cI, 501, .inl (fun j => nI (Kd j)))), (k5, .inl (cI, 501, .inl sf)), (k6, .inl (cI, 501, .inl nf)), (k7, .inl (cI, 6, .inl (fun j => nI (Tk j)))), (p0, .inr (4, [.int (nI nc), .ref b1, .ref b2, .ref b3])), (b1, .inl (cI, 3, .inl (fun j => nI (L j)))), (b2, .inl (cI, 4, .inl cf)), (b3, .inl (cI, 192, .inl pf)), (d0, .inr (4, [.int (nI ncd), .ref e1, .ref e2, .ref e3])), (e1, .inl (cI, 3, .inl (fun j => nI (Ld j)))), (e2, .inl (cI, 4, .inl cfd)), (e3, .inl (cI, 192, .inl pfd)), (m0, .inr (3, [.ref ms, .int vst, .int (nI vk), .int vm, .ref md])), (ms, .inr (7, [.ref mw])), (mw, .inl (cI, 34, .inl mf)), (md, .inl (cI, 38, .inl vd)), (oA, .inr (2, [.int e_2, .int e_3, .int (nI e_4), .int (nI e_5), .ref e_6])), (e_6, .inl (cI, e_7, .inl e_8)), (oB, .inr (2, [.int e_9, .int e_10, .int (nI e_11), .int (nI e_12), .ref e_13])), (e_13, .inl (cI, e_14, .inl e_15)), (ra, .inr (5, [.int rkn, .int ran, .int rr2, .int rr3, .int rr4, .int (nI rt), .ref a6])), (a6, .inl (cI, 38, .inl rpa)), (cu, .inr (0, [.ref f0, .int (nI lz), .int can, .ref a3l, .int cts, .ref a5t])), (a3l, .inl (cI, 2, .inl lk)), (a5t, .inl (cI, 2, .inl td)), (f0, .inr (4, [.int fc, .ref g1, .ref g2, .ref g3])), (g1, .inl (cI, 3, .inl (fun j => nI (FL j)))), (g2, .inl (cI, 4, .inl fcf)), (g3, .inl (cI, 192, .inl fpf)), (x0, .inr (1, [.int e_16, .int e_17, .ref a2, .ref a3, .ref s4, .ref s5, .int e_18, .ref e_19, .ref a8, .ref a9])), (s4, .inr (7, [.ref w4])), (w4, .inl (cI, 34, .inl e_22)), (s5, .inr (7, [.ref w5])), (w5, .inl (cI, 34, .inl e_23)), (a2, .inl (cI, 3000, .inl e_24)), (e_19, .inl (cI, e_20, .inl e_21)), (a8, .inl (cI, 4096, .inl e_25)), (a9, .inl (cI, 3000, .inl e_26)), (a3, .inl (cI, 38, .inl e_27))]) hP [23, 0, 1, 2, 3, 4, 5, 38, 39, 40, 41, 6, 7, 8, 9, 10, 11, 12, 13, 24, 25, 26, 27, 14, 15, 16, 17, 18, 19, 20, 21, 22, 28, 29, 30, 31, 32, 33, 34, 35, 36, 37] rfl
    have hD := gq_subD (X' := [(h0, .inr (8, [.ref a, .int (nI tz), .ref r0, .int fp, .int ld, .ref p0, .ref m0, .ref x0, .ref oA, .ref oB, .ref ra, .ref cu])), (a, .inl (cB, 4000, .inl f)), (r0, .inr (6, [.ref d0, .int pv, .int fv, .int lp, .ref k4, .ref k5, .ref k6, .ref k7, .int (nI t), .int tl, .int vr, .int vl])), (k4, .inl (cI, 501, .inl (fun j => nI (Kd j)))), (k5, .inl (cI, 501, .inl sf)), (k6, .inl (cI, 501, .inl nf)), (k7, .inl (cI, 6, .inl (fun j => nI (Tk j)))), (p0, .inr (4, [.int (nI nc), .ref b1, .ref b2, .ref b3])), (b1, .inl (cI, 3, .inl (fun j => nI (L j)))), (b2, .inl (cI, 4, .inl cf)), (b3, .inl (cI, 192, .inl pf)), (d0, .inr (4, [.int (nI ncd), .ref e1, .ref e2, .ref e3])), (e1, .inl (cI, 3, .inl (fun j => nI (Ld j)))), (e2, .inl (cI, 4, .inl cfd)), (e3, .inl (cI, 192, .inl pfd)), (m0, .inr (3, [.ref ms, .int vst, .int (nI vk), .int vm, .ref md])), (ms, .inr (7, [.ref mw])), (mw, .inl (cI, 34, .inl mf)), (md, .inl (cI, 38, .inl vd)), (oA, .inr (2, [.int e_2, .int e_3, .int (nI e_4), .int (nI e_5), .ref e_6])), (e_6, .inl (cI, e_7, .inl e_8)), (oB, .inr (2, [.int e_9, .int e_10, .int (nI e_11), .int (nI e_12), .ref e_13])), (e_13, .inl (cI, e_14, .inl e_15)), (ra, .inr (5, [.int rkn, .int ran, .int rr2, .int rr3, .int rr4, .int (nI rt), .ref a6])), (a6, .inl (cI, 38, .inl rpa)), (cu, .inr (0, [.ref f0, .int (nI lz), .int can, .ref a3l, .int cts, .ref a5t])), (a3l, .inl (cI, 2, .inl lk)), (a5t, .inl (cI, 2, .inl td)), (f0, .inr (4, [.int fc, .ref g1, .ref g2, .ref g3])), (g1, .inl (cI, 3, .inl (fun j => nI (FL j)))), (g2, .inl (cI, 4, .inl fcf)), (g3, .inl (cI, 192, .inl fpf)), (x0, .inr (1, [.int e_16, .int e_17, .ref a2, .ref a3, .ref s4, .ref s5, .int e_18, .ref e_19, .ref a8, .ref a9])), (s4, .inr (7, [.ref w4])), (w4, .inl (cI, 34, .inl e_22)), (s5, .inr (7, [.ref w5])), (w5, .inl (cI, 34, .inl e_23)), (a2, .inl (cI, 3000, .inl e_24)), (e_19, .inl (cI, e_20, .inl e_21)), (a8, .inl (cI, 4096, .inl e_25)), (a9, .inl (cI, 3000, .inl e_26)), (a3, .inl (cI, 38, .inl e_27))]) hD [23, 0, 1, 2, 3, 4, 5, 38, 39, 40, 41, 6, 7, 8, 9, 10, 11, 12, 13, 24, 25, 26, 27, 14, 15, 16, 17, 18, 19, 20, 21, 22, 28, 29, 30, 31, 32, 33, 34, 35, 36, 37] (by decide) rfl
    refine W.widen (k := 63 + (e_7 / 17) + (e_14 / 17) + 10 + ((e_20 - 1600) / 4800)) (n := 584682 + (2 * e_7 + 51000 * (e_7 / 51000)) + (2 * e_14 + 51000 * (e_14 / 51000)) + 11814 + (2 * (e_20 - 1600))) (gq_wE (hq_29).1 hrA.2 (hq_29).2.2 (hq_31).1 hrB.2 (hq_31).2.2 hq_32 hrm.1).1 (gq_wE (hq_29).1 hrA.2 (hq_29).2.2 (hq_31).1 hrB.2 (hq_31).2.2 hq_32 hrm.1).2 ?_
    exact kk e_1 _ tz f fp ld nc L cf pf vst vk vm vd _ _ H locs (Or.inr (HallE_mk cI cB cZ h0 tz f fp ld nc L cf pf vst vk vm vd a r0 k4 k5 k6 k7 p0 b1 b2 b3 d0 e1 e2 e3 m0 ms mw md oA oB ra a6 cu f0 g1 g2 g3 a3l a5t pv fv lp t tl vr vl Kd sf nf Tk ncd Ld cfd pfd mf e_2 e_3 e_4 e_5 e_6 e_7 e_8 e_9 e_10 e_11 e_12 e_13 e_14 e_15 rkn ran rr2 rr3 rr4 rt rpa lz can cts td lk fc FL fcf fpf x0 a2 s4 w4 s5 w5 a8 a9 a3 e_16 e_17 e_18 e_19 e_20 e_21 e_22 e_23 e_24 e_25 e_26 e_27 htz hR hTk hgo hmk hM hq_28 ⟨Nat.le_trans hrA.1 (hq_29).1, (hq_29).2.2⟩ (hq_29).2.1 hq_30 ⟨Nat.le_trans hrB.1 (hq_31).1, (hq_31).2.2⟩ (hq_31).2.1 hrt hlz hCm (hq_33).1 ⟨Nat.le_trans hrm.1 hq_32, (hq_33).2⟩ hx507_0 hx507_1)) ⟨⟨hx507_2, hgo⟩, rfl, rfl, rfl, rfl, rfl, rfl, rfl, rfl, rfl, rfl, rfl, rfl⟩ hP hD hS
set_option maxHeartbeats 4000000 in
set_option maxRecDepth 100000 in
theorem hl_schedule {p : Program} {l : Launch} {e : Env} {s : State} {m : MethodId} {below : List Frame} {meth : Method} {c : Code} {b : Nat} {A : Nat → Prop} {Q : State → Prop} {D : va_G} {cI cB cZ : ClassId} {K : gKS} (G : gL p s m c b A D cI cB cZ K) {H : Heap} {locs : List Loc} {ls : Array Slot} {w8 w9 : va_W} {h0 tz kc ns : Nat} {f : Nat → Int32} {fp ld : Int32} {nc : Nat} {L : Nat → Nat} {cf : Nat → Int32} {pf : Nat → Int32} {vst : Int32} {vk : Nat} {vm : Int32} {vd : Nat → Int32} (hH : HallI cI cB cZ h0 w8 tz f fp ld nc L cf pf vst vk vm vd kc ns) (hP : va_P D vwCl (w8 ++ w9) H) (hD : va_D A (w8 ++ w9)) (hS : va_S A s.heap H locs) (hl : ls.size = 4 ∧ True) (hsk : ¬ ld = 0 → bSk pf L nc) (z1 : Int32) (z2 : Int32) (z3 : Int32) (kk : ∀ (r : Int32) (w8' : va_W) (tz9 : Nat) (f9 : Nat → Int32) (fp9 ld9 : Int32) (nc9 : Nat) (L9 : Nat → Nat) (cf9 : Nat → Int32) (pf9 : Nat → Int32) (vst9 : Int32) (vk9 : Nat) (vm9 : Int32) (vd9 : Nat → Int32) (kc9 ns9 : Nat) (H1 : Heap) (locs1 : List Loc), HallI cI cB cZ h0 w8' tz9 f9 fp9 ld9 nc9 L9 cf9 pf9 vst9 vk9 vm9 vd9 kc9 ns9 → (((rSc pf cf L nc ld z1 z2 z3 r) ∧ nc ≤ 3 ∧ (∀ j, j < 3 → L j ≤ 6) ∧ gG L pf 5) ∧ tz = tz9 ∧ f = f9 ∧ fp = fp9 ∧ ld = ld9 ∧ nc = nc9 ∧ L = L9 ∧ cf = cf9 ∧ pf = pf9 ∧ vst = vst9 ∧ vk = vk9 ∧ vm = vm9 ∧ vd = vd9) → va_P D vwCl (w8' ++ w9) H1 → va_D A (w8' ++ w9) → va_S A s.heap H1 locs1 → W p l e room_1 s m #[Value.ref b] below meth c H1 locs1 kc9 ns9 Q (F0 m 553 ls [.int r])) : W p l e room_1 s m #[Value.ref b] below meth c H locs kc ns Q (F0 m 550 ls [.int z3, .int z2, .int z1, .ref h0]) := by
  obtain ⟨hx, hb, hml, hown, hts, hA, hK, hN, hE⟩ := G
  rcases hH with hH | hH
  · refine HallN_el hH (fun a r0 k4 k5 k6 k7 p0 b1 b2 b3 d0 e1 e2 e3 m0 ms mw md oA oB ra a6 cu f0 g1 g2 g3 a3l a5t pv fv lp t tl vr vl Kd sf nf Tk ncd Ld cfd pfd mf flA stA sA bA rrA recA flB stB sB bB rrB recB ran rr2 rr3 rr4 rt rpa lz can cts td lk fc FL fcf fpf htz hR hTk hgo hmk hM hsA hrA hmA hsB hrB hmB hrt hlz hCm hk9 hn9 hw9 => ?_)
    clear hH
    subst hk9; subst hn9; subst hw9
    obtain ⟨hc, hL6, hI5⟩ := id hgo
    have hL := gL6_8 hL6
    have hI := gG_up (b' := 7) hI5 (by decide)
    have hbG : ¬ ld = 0 → bG pf L nc := fun h => bG_mk hgo (hsk h)
    have hkb := gq_kN hmA hmB
    refine gq_gowi (post := po_x_scheduleN cI cB cZ h0 oA oB ld (.ref a) (.int (nI tz)) (.ref r0) (.int fp) (.ref m0) (.ref ra) (.ref cu) p0 b1 b2 b3 nc L cf pf flA stA sA bA rrA recA flB stB sB bB rrB recB z1 z2 z3) (wc := [(h0, .inr (8, [.ref a, .int (nI tz), .ref r0, .int fp, .int ld, .ref p0, .ref m0, .null, .ref oA, .ref oB, .ref ra, .ref cu])), (oA, .inr (2, [.int 0, .int flA, .int (nI stA), .int (nI sA), .ref bA])), (bA, .inl (cI, rrA, .inl recA)), (oB, .inr (2, [.int 0, .int flB, .int (nI stB), .int (nI sB), .ref bB])), (bB, .inl (cI, rrB, .inl recB)), (p0, .inr (4, [.int (nI nc), .ref b1, .ref b2, .ref b3])), (b1, .inl (cI, 3, .inl (fun j => nI (L j)))), (b2, .inl (cI, 4, .inl cf)), (b3, .inl (cI, 192, .inl pf))]) (wr := [(a, .inl (cB, 4000, .inl f)), (r0, .inr (6, [.ref d0, .int pv, .int fv, .int lp, .ref k4, .ref k5, .ref k6, .ref k7, .int (nI t), .int tl, .int vr, .int vl])), (k4, .inl (cI, 501, .inl (fun j => nI (Kd j)))), (k5, .inl (cI, 501, .inl sf)), (k6, .inl (cI, 501, .inl nf)), (k7, .inl (cI, 6, .inl (fun j => nI (Tk j)))), (d0, .inr (4, [.int (nI ncd), .ref e1, .ref e2, .ref e3])), (e1, .inl (cI, 3, .inl (fun j => nI (Ld j)))), (e2, .inl (cI, 4, .inl cfd)), (e3, .inl (cI, 192, .inl pfd)), (m0, .inr (3, [.ref ms, .int vst, .int (nI vk), .int vm, .ref md])), (ms, .inr (7, [.ref mw])), (mw, .inl (cI, 34, .inl mf)), (md, .inl (cI, 38, .inl vd)), (ra, .inr (5, [.int 0, .int ran, .int rr2, .int rr3, .int rr4, .int (nI rt), .ref a6])), (a6, .inl (cI, 38, .inl rpa)), (cu, .inr (0, [.ref f0, .int (nI lz), .int can, .ref a3l, .int cts, .ref a5t])), (a3l, .inl (cI, 2, .inl lk)), (a5t, .inl (cI, 2, .inl td)), (f0, .inr (4, [.int fc, .ref g1, .ref g2, .ref g3])), (g1, .inl (cI, 3, .inl (fun j => nI (FL j)))), (g2, .inl (cI, 4, .inl fcf)), (g3, .inl (cI, 192, .inl fpf))]) (va_runV (As := [.int z1, .int z2, .int z3]) (rest := []) ⟨hx, hb, hml, hown, hts⟩ (x_scheduleN l D cI cB cZ h0 oA oB ld (.ref a) (.int (nI tz)) (.ref r0) (.int fp) (.ref m0) (.ref ra) (.ref cu) p0 b1 b2 b3 nc L cf pf flA stA sA bA rrA recA flB stB sB bB rrB recB z1 z2 z3 hc hL6 hI5 hsA hrA hmA hsB hrB hmB hbG _ _) (cwV 3 hts gP_law__x_scheduleN rfl rfl rfl (by decide +kernel) ⟨Nat.le_of_ble_eq_true rfl, Nat.le_of_ble_eq_true rfl⟩) (gw_preV (ci := 8) (q0 := 0) hK (hN.sub (by decide +kernel)) (gq_Pl hP) (gq_Dl hD) [0, 19, 20, 21, 22, 7, 8, 9, 10] rfl rfl rfl rfl) rfl rfl hl.1 rfl (lv_room (Nat.le_of_ble_eq_true rfl)) dL_law_550 ⟨(Nat.le_trans (Nat.add_le_add_right hkb.1 _) (Nat.le_of_ble_eq_true rfl)), (Nat.le_trans (Nat.add_le_add_right hkb.2 _) (Nat.le_of_ble_eq_true rfl))⟩) hP hD hS hA [0, 19, 20, 21, 22, 7, 8, 9, 10] [1, 2, 3, 4, 5, 6, 11, 12, 13, 14, 15, 16, 17, 18, 23, 24, 25, 26, 27, 28, 29, 30, 31] rfl rfl rfl (by decide) (fun r1 w1 k1 n1 H locs hp hP hD hS => ?_)
    rcases hp with hp | hp
    · obtain ⟨e_1, hp⟩ := hp
      obtain ⟨hx550_0, hp⟩ := hp
      obtain ⟨hk1, hp⟩ := hp
      obtain ⟨hn1, hp⟩ := hp
      obtain ⟨h9, hp⟩ := hp
      subst hp
      have hk1 := hk1.symm; subst hk1; have hn1 := hn1.symm; subst hn1
      have h9 := h9.symm
      subst h9
      have hx550_0 : rSc pf cf L nc ld z1 z2 z3 e_1 := hx550_0
      refine W.widen (k := 63 + (rrA / 17) + (rrB / 17) + (0)) (n := 584682 + (2 * rrA + 51000 * (rrA / 51000)) + (2 * rrB + 51000 * (rrB / 51000)) + (0)) (Nat.le_refl _) (Nat.le_refl _) ?_
      have hP := gq_subP (X' := [(h0, .inr (8, [.ref a, .int (nI tz), .ref r0, .int fp, .int ld, .ref p0, .ref m0, .null, .ref oA, .ref oB, .ref ra, .ref cu])), (a, .inl (cB, 4000, .inl f)), (r0, .inr (6, [.ref d0, .int pv, .int fv, .int lp, .ref k4, .ref k5, .ref k6, .ref k7, .int (nI t), .int tl, .int vr, .int vl])), (k4, .inl (cI, 501, .inl (fun j => nI (Kd j)))), (k5, .inl (cI, 501, .inl sf)), (k6, .inl (cI, 501, .inl nf)), (k7, .inl (cI, 6, .inl (fun j => nI (Tk j)))), (p0, .inr (4, [.int (nI nc), .ref b1, .ref b2, .ref b3])), (b1, .inl (cI, 3, .inl (fun j => nI (L j)))), (b2, .inl (cI, 4, .inl cf)), (b3, .inl (cI, 192, .inl pf)), (d0, .inr (4, [.int (nI ncd), .ref e1, .ref e2, .ref e3])), (e1, .inl (cI, 3, .inl (fun j => nI (Ld j)))), (e2, .inl (cI, 4, .inl cfd)), (e3, .inl (cI, 192, .inl pfd)), (m0, .inr (3, [.ref ms, .int vst, .int (nI vk), .int vm, .ref md])), (ms, .inr (7, [.ref mw])), (mw, .inl (cI, 34, .inl mf)), (md, .inl (cI, 38, .inl vd)), (oA, .inr (2, [.int 0, .int flA, .int (nI stA), .int (nI sA), .ref bA])), (bA, .inl (cI, rrA, .inl recA)), (oB, .inr (2, [.int 0, .int flB, .int (nI stB), .int (nI sB), .ref bB])), (bB, .inl (cI, rrB, .inl recB)), (ra, .inr (5, [.int 0, .int ran, .int rr2, .int rr3, .int rr4, .int (nI rt), .ref a6])), (a6, .inl (cI, 38, .inl rpa)), (cu, .inr (0, [.ref f0, .int (nI lz), .int can, .ref a3l, .int cts, .ref a5t])), (a3l, .inl (cI, 2, .inl lk)), (a5t, .inl (cI, 2, .inl td)), (f0, .inr (4, [.int fc, .ref g1, .ref g2, .ref g3])), (g1, .inl (cI, 3, .inl (fun j => nI (FL j)))), (g2, .inl (cI, 4, .inl fcf)), (g3, .inl (cI, 192, .inl fpf))]) hP [23, 0, 1, 2, 3, 4, 5, 28, 29, 30, 31, 6, 7, 8, 9, 10, 11, 12, 13, 24, 25, 26, 27, 14, 15, 16, 17, 18, 19, 20, 21, 22] rfl
      have hD := gq_subD (X' := [(h0, .inr (8, [.ref a, .int (nI tz), .ref r0, .int fp, .int ld, .ref p0, .ref m0, .null, .ref oA, .ref oB, .ref ra, .ref cu])), (a, .inl (cB, 4000, .inl f)), (r0, .inr (6, [.ref d0, .int pv, .int fv, .int lp, .ref k4, .ref k5, .ref k6, .ref k7, .int (nI t), .int tl, .int vr, .int vl])), (k4, .inl (cI, 501, .inl (fun j => nI (Kd j)))), (k5, .inl (cI, 501, .inl sf)), (k6, .inl (cI, 501, .inl nf)), (k7, .inl (cI, 6, .inl (fun j => nI (Tk j)))), (p0, .inr (4, [.int (nI nc), .ref b1, .ref b2, .ref b3])), (b1, .inl (cI, 3, .inl (fun j => nI (L j)))), (b2, .inl (cI, 4, .inl cf)), (b3, .inl (cI, 192, .inl pf)), (d0, .inr (4, [.int (nI ncd), .ref e1, .ref e2, .ref e3])), (e1, .inl (cI, 3, .inl (fun j => nI (Ld j)))), (e2, .inl (cI, 4, .inl cfd)), (e3, .inl (cI, 192, .inl pfd)), (m0, .inr (3, [.ref ms, .int vst, .int (nI vk), .int vm, .ref md])), (ms, .inr (7, [.ref mw])), (mw, .inl (cI, 34, .inl mf)), (md, .inl (cI, 38, .inl vd)), (oA, .inr (2, [.int 0, .int flA, .int (nI stA), .int (nI sA), .ref bA])), (bA, .inl (cI, rrA, .inl recA)), (oB, .inr (2, [.int 0, .int flB, .int (nI stB), .int (nI sB), .ref bB])), (bB, .inl (cI, rrB, .inl recB)), (ra, .inr (5, [.int 0, .int ran, .int rr2, .int rr3, .int rr4, .int (nI rt), .ref a6])), (a6, .inl (cI, 38, .inl rpa)), (cu, .inr (0, [.ref f0, .int (nI lz), .int can, .ref a3l, .int cts, .ref a5t])), (a3l, .inl (cI, 2, .inl lk)), (a5t, .inl (cI, 2, .inl td)), (f0, .inr (4, [.int fc, .ref g1, .ref g2, .ref g3])), (g1, .inl (cI, 3, .inl (fun j => nI (FL j)))), (g2, .inl (cI, 4, .inl fcf)), (g3, .inl (cI, 192, .inl fpf))]) hD [23, 0, 1, 2, 3, 4, 5, 28, 29, 30, 31, 6, 7, 8, 9, 10, 11, 12, 13, 24, 25, 26, 27, 14, 15, 16, 17, 18, 19, 20, 21, 22] (by decide) rfl
      exact kk e_1 _ tz f fp ld nc L cf pf vst vk vm vd _ _ H locs (Or.inl (HallN_mk cI cB cZ h0 tz f fp ld nc L cf pf vst vk vm vd a r0 k4 k5 k6 k7 p0 b1 b2 b3 d0 e1 e2 e3 m0 ms mw md oA oB ra a6 cu f0 g1 g2 g3 a3l a5t pv fv lp t tl vr vl Kd sf nf Tk ncd Ld cfd pfd mf flA stA sA bA rrA recA flB stB sB bB rrB recB ran rr2 rr3 rr4 rt rpa lz can cts td lk fc FL fcf fpf htz hR hTk hgo hmk hM hsA hrA hmA hsB hrB hmB hrt hlz hCm)) ⟨⟨hx550_0, hgo⟩, rfl, rfl, rfl, rfl, rfl, rfl, rfl, rfl, rfl, rfl, rfl, rfl⟩ hP hD hS
    · obtain ⟨e_2, hp⟩ := hp
      obtain ⟨e_3, hp⟩ := hp
      obtain ⟨e_4, hp⟩ := hp
      obtain ⟨e_5, hp⟩ := hp
      obtain ⟨e_6, hp⟩ := hp
      obtain ⟨e_7, hp⟩ := hp
      obtain ⟨e_8, hp⟩ := hp
      obtain ⟨e_9, hp⟩ := hp
      obtain ⟨e_10, hp⟩ := hp
      obtain ⟨e_11, hp⟩ := hp
      obtain ⟨e_12, hp⟩ := hp
      obtain ⟨e_13, hp⟩ := hp
      obtain ⟨e_14, hp⟩ := hp
      obtain ⟨e_15, hp⟩ := hp
      obtain ⟨e_16, hp⟩ := hp
      obtain ⟨e_17, hp⟩ := hp
      obtain ⟨e_18, hp⟩ := hp
      obtain ⟨e_19, hp⟩ := hp
      obtain ⟨e_20, hp⟩ := hp
      obtain ⟨e_21, hp⟩ := hp
      obtain ⟨e_22, hp⟩ := hp
      obtain ⟨e_23, hp⟩ := hp
      obtain ⟨e_24, hp⟩ := hp
      obtain ⟨e_25, hp⟩ := hp
      obtain ⟨e_26, hp⟩ := hp
      obtain ⟨e_27, hp⟩ := hp
      obtain ⟨e_28, hp⟩ := hp
      obtain ⟨e_29, hp⟩ := hp
      obtain ⟨e_30, hp⟩ := hp
      obtain ⟨e_31, hp⟩ := hp
      obtain ⟨e_32, hp⟩ := hp
      obtain ⟨e_33, hp⟩ := hp
      obtain ⟨e_34, hp⟩ := hp
      obtain ⟨e_35, hp⟩ := hp
      obtain ⟨e_36, hp⟩ := hp
      obtain ⟨e_37, hp⟩ := hp
      obtain ⟨hq_38, hp⟩ := hp
      obtain ⟨hq_39, hp⟩ := hp
      obtain ⟨hq_40, hp⟩ := hp
      obtain ⟨hq_41, hp⟩ := hp
      obtain ⟨hq_42, hp⟩ := hp
      obtain ⟨hx550_0, hp⟩ := hp
      obtain ⟨hx550_1, hp⟩ := hp
      obtain ⟨hx550_2, hp⟩ := hp
      obtain ⟨hk1, hp⟩ := hp
      obtain ⟨hn1, hp⟩ := hp
      obtain ⟨h9, hp⟩ := hp
      subst hp
      have hk1 := hk1.symm; subst hk1; have hn1 := hn1.symm; subst hn1
      have h9 := h9.symm
      subst h9
      have hq_38 : e_15 * 17 ≤ e_17 := hq_38
      have hq_39 : rrA ≤ e_17 ∧ e_17 ≤ 51000 ∧ e_17 % 17 = 0 := hq_39
      have hq_40 : e_22 * 17 ≤ e_24 := hq_40
      have hq_41 : rrB ≤ e_24 ∧ e_24 ≤ 51000 ∧ e_24 % 17 = 0 := hq_41
      have hq_42 : gRl e_30 ∧ 1600 ≤ e_30 ∧ e_30 ≤ 102000 := hq_42
      have hx550_0 : ¬ e_12 = 0 → fSp pf cf L nc 1 e_13 e_14 e_15 e_18 := hx550_0
      have hx550_1 : ¬ e_19 = 0 → fSp pf cf L nc 0 e_20 e_21 e_22 e_25 := hx550_1
      have hx550_2 : rSc pf cf L nc ld z1 z2 z3 e_2 := hx550_2
      refine W.widen (k := 63 + (rrA / 17) + (rrB / 17) + (10 + ((e_30 - 1600) / 4800) + ((e_17 - rrA) / 17) + ((e_24 - rrB) / 17))) (n := 584682 + (2 * rrA + 51000 * (rrA / 51000)) + (2 * rrB + 51000 * (rrB / 51000)) + (11814 + (2 * (e_30 - 1600)) + ((2 * e_17 + 51000 * (e_17 / 51000)) - (2 * rrA + 51000 * (rrA / 51000))) + ((2 * e_24 + 51000 * (e_24 / 51000)) - (2 * rrB + 51000 * (rrB / 51000))))) (Nat.le_refl _) (Nat.le_refl _) ?_
      have hP := gq_subP (X' := [(h0, .inr (8, [.ref a, .int (nI tz), .ref r0, .int fp, .int ld, .ref p0, .ref m0, .ref e_3, .ref oA, .ref oB, .ref ra, .ref cu])), (a, .inl (cB, 4000, .inl f)), (r0, .inr (6, [.ref d0, .int pv, .int fv, .int lp, .ref k4, .ref k5, .ref k6, .ref k7, .int (nI t), .int tl, .int vr, .int vl])), (k4, .inl (cI, 501, .inl (fun j => nI (Kd j)))), (k5, .inl (cI, 501, .inl sf)), (k6, .inl (cI, 501, .inl nf)), (k7, .inl (cI, 6, .inl (fun j => nI (Tk j)))), (p0, .inr (4, [.int (nI nc), .ref b1, .ref b2, .ref b3])), (b1, .inl (cI, 3, .inl (fun j => nI (L j)))), (b2, .inl (cI, 4, .inl cf)), (b3, .inl (cI, 192, .inl pf)), (d0, .inr (4, [.int (nI ncd), .ref e1, .ref e2, .ref e3])), (e1, .inl (cI, 3, .inl (fun j => nI (Ld j)))), (e2, .inl (cI, 4, .inl cfd)), (e3, .inl (cI, 192, .inl pfd)), (m0, .inr (3, [.ref ms, .int vst, .int (nI vk), .int vm, .ref md])), (ms, .inr (7, [.ref mw])), (mw, .inl (cI, 34, .inl mf)), (md, .inl (cI, 38, .inl vd)), (oA, .inr (2, [.int e_12, .int e_13, .int (nI e_14), .int (nI e_15), .ref e_16])), (e_16, .inl (cI, e_17, .inl e_18)), (oB, .inr (2, [.int e_19, .int e_20, .int (nI e_21), .int (nI e_22), .ref e_23])), (e_23, .inl (cI, e_24, .inl e_25)), (ra, .inr (5, [.int 0, .int ran, .int rr2, .int rr3, .int rr4, .int (nI rt), .ref a6])), (a6, .inl (cI, 38, .inl rpa)), (cu, .inr (0, [.ref f0, .int (nI lz), .int can, .ref a3l, .int cts, .ref a5t])), (a3l, .inl (cI, 2, .inl lk)), (a5t, .inl (cI, 2, .inl td)), (f0, .inr (4, [.int fc, .ref g1, .ref g2, .ref g3])), (g1, .inl (cI, 3, .inl (fun j => nI (FL j)))), (g2, .inl (cI, 4, .inl fcf)), (g3, .inl (cI, 192, .inl fpf)), (e_3, .inr (1, [.int e_26, .int e_27, .ref e_4, .ref e_11, .ref e_5, .ref e_7, .int e_28, .ref e_29, .ref e_9, .ref e_10])), (e_5, .inr (7, [.ref e_6])), (e_6, .inl (cI, 34, .inl e_32)), (e_7, .inr (7, [.ref e_8])), (e_8, .inl (cI, 34, .inl e_33)), (e_4, .inl (cI, 3000, .inl e_34)), (e_29, .inl (cI, e_30, .inl e_31)), (e_9, .inl (cI, 4096, .inl e_35)), (e_10, .inl (cI, 3000, .inl e_36)), (e_11, .inl (cI, 38, .inl e_37))]) hP [23, 0, 1, 2, 3, 4, 5, 38, 39, 40, 41, 6, 7, 8, 9, 10, 11, 12, 13, 24, 25, 26, 27, 14, 15, 16, 17, 18, 19, 20, 21, 22, 28, 29, 30, 31, 32, 33, 34, 35, 36, 37] rfl
      have hD := gq_subD (X' := [(h0, .inr (8, [.ref a, .int (nI tz), .ref r0, .int fp, .int ld, .ref p0, .ref m0, .ref e_3, .ref oA, .ref oB, .ref ra, .ref cu])), (a, .inl (cB, 4000, .inl f)), (r0, .inr (6, [.ref d0, .int pv, .int fv, .int lp, .ref k4, .ref k5, .ref k6, .ref k7, .int (nI t), .int tl, .int vr, .int vl])), (k4, .inl (cI, 501, .inl (fun j => nI (Kd j)))), (k5, .inl (cI, 501, .inl sf)), (k6, .inl (cI, 501, .inl nf)), (k7, .inl (cI, 6, .inl (fun j => nI (Tk j)))), (p0, .inr (4, [.int (nI nc), .ref b1, .ref b2, .ref b3])), (b1, .inl (cI, 3, .inl (fun j => nI (L j)))), (b2, .inl (cI, 4, .inl cf)), (b3, .inl (cI, 192, .inl pf)), (d0, .inr (4, [.int (nI ncd), .ref e1, .ref e2, .ref e3])), (e1, .inl (cI, 3, .inl (fun j => nI (Ld j)))), (e2, .inl (cI, 4, .inl cfd)), (e3, .inl (cI, 192, .inl pfd)), (m0, .inr (3, [.ref ms, .int vst, .int (nI vk), .int vm, .ref md])), (ms, .inr (7, [.ref mw])), (mw, .inl (cI, 34, .inl mf)), (md, .inl (cI, 38, .inl vd)), (oA, .inr (2, [.int e_12, .int e_13, .int (nI e_14), .int (nI e_15), .ref e_16])), (e_16, .inl (cI, e_17, .inl e_18)), (oB, .inr (2, [.int e_19, .int e_20, .int (nI e_21), .int (nI e_22), .ref e_23])), (e_23, .inl (cI, e_24, .inl e_25)), (ra, .inr (5, [.int 0, .int ran, .int rr2, .int rr3, .int rr4, .int (nI rt), .ref a6])), (a6, .inl (cI, 38, .inl rpa)), (cu, .inr (0, [.ref f0, .int (nI lz), .int can, .ref a3l, .int cts, .ref a5t])), (a3l, .inl (cI, 2, .inl lk)), (a5t, .inl (cI, 2, .inl td)), (f0, .inr (4, [.int fc, .ref g1, .ref g2, .ref g3])), (g1, .inl (cI, 3, .inl (fun j => nI (FL j)))), (g2, .inl (cI, 4, .inl fcf)), (g3, .inl (cI, 192, .inl fpf)), (e_3, .inr (1, [.int e_26, .int e_27, .ref e_4, .ref e_11, .ref e_5, .ref e_7, .int e_28, .ref e_29, .ref e_9, .ref e_10])), (e_5, .inr (7, [.ref e_6])), (e_6, .inl (cI, 34, .inl e_32)), (e_7, .inr (7, [.ref e_8])), (e_8, .inl (cI, 34, .inl e_33)), (e_4, .inl (cI, 3000, .inl e_34)), (e_29, .inl (cI, e_30, .inl e_31)), (e_9, .inl (cI, 4096, .inl e_35)), (e_10, .inl (cI, 3000, .inl e_36)), (e_11, .inl (cI, 38, .inl e_37))]) hD [23, 0, 1, 2, 3, 4, 5, 38, 39, 40, 41, 6, 7, 8, 9, 10, 11, 12, 13, 24, 25, 26, 27, 14, 15, 16, 17, 18, 19, 20, 21, 22, 28, 29, 30, 31, 32, 33, 34, 35, 36, 37] (by decide) rfl
      refine W.widen (k := 63 + (e_17 / 17) + (e_24 / 17) + 10 + ((e_30 - 1600) / 4800)) (n := 584682 + (2 * e_17 + 51000 * (e_17 / 51000)) + (2 * e_24 + 51000 * (e_24 / 51000)) + 11814 + (2 * (e_30 - 1600))) (gq_wN (hq_39).1 hrA.2 (hq_39).2.2 (hq_41).1 hrB.2 (hq_41).2.2).1 (gq_wN (hq_39).1 hrA.2 (hq_39).2.2 (hq_41).1 hrB.2 (hq_41).2.2).2 ?_
      exact kk e_2 _ tz f fp ld nc L cf pf vst vk vm vd _ _ H locs (Or.inr (HallE_mk cI cB cZ h0 tz f fp ld nc L cf pf vst vk vm vd a r0 k4 k5 k6 k7 p0 b1 b2 b3 d0 e1 e2 e3 m0 ms mw md oA oB ra a6 cu f0 g1 g2 g3 a3l a5t pv fv lp t tl vr vl Kd sf nf Tk ncd Ld cfd pfd mf e_12 e_13 e_14 e_15 e_16 e_17 e_18 e_19 e_20 e_21 e_22 e_23 e_24 e_25 0 ran rr2 rr3 rr4 rt rpa lz can cts td lk fc FL fcf fpf e_3 e_4 e_5 e_6 e_7 e_8 e_9 e_10 e_11 e_26 e_27 e_28 e_29 e_30 e_31 e_32 e_33 e_34 e_35 e_36 e_37 htz hR hTk hgo hmk hM hq_38 ⟨Nat.le_trans hrA.1 (hq_39).1, (hq_39).2.2⟩ (hq_39).2.1 hq_40 ⟨Nat.le_trans hrB.1 (hq_41).1, (hq_41).2.2⟩ (hq_41).2.1 hrt hlz hCm (hq_42).1 (hq_42).2 hx550_0 hx550_1)) ⟨⟨hx550_2, hgo⟩, rfl, rfl, rfl, rfl, rfl, rfl, rfl, rfl, rfl, rfl, rfl, rfl⟩ hP hD hS
  · refine HallE_el hH (fun a r0 k4 k5 k6 k7 p0 b1 b2 b3 d0 e1 e2 e3 m0 ms mw md oA oB ra a6 cu f0 g1 g2 g3 a3l a5t pv fv lp t tl vr vl Kd sf nf Tk ncd Ld cfd pfd mf knA flA stA sA bA rrA recA knB flB stB sB bB rrB recB rkn ran rr2 rr3 rr4 rt rpa lz can cts td lk fc FL fcf fpf x0 a2 s4 w4 s5 w5 a8 a9 a3 i0 i1 i6 a7 rl rf f4 f5 ef sl cm pp htz hR hTk hgo hmk hM hsA hrA hmA hsB hrB hmB hrt hlz hCm hrl hrm hFA hFB hk9 hn9 hw9 => ?_)
    clear hH
    subst hk9; subst hn9; subst hw9
    obtain ⟨hc, hL6, hI5⟩ := id hgo
    have hL := gL6_8 hL6
    have hI := gG_up (b' := 7) hI5 (by decide)
    have hbG : ¬ ld = 0 → bG pf L nc := fun h => bG_mk hgo (hsk h)
    have hkb := gq_k hmA hmB hrm.2
    refine gq_gowi (post := po_x_scheduleE cI cB cZ h0 oA oB ld (.ref a) (.int (nI tz)) (.ref r0) (.int fp) (.ref m0) (.ref ra) (.ref cu) p0 b1 b2 b3 nc L cf pf knA flA stA sA bA rrA recA knB flB stB sB bB rrB recB x0 a2 s4 w4 s5 w5 a8 a9 a3 i0 i1 i6 a7 rl rf f4 f5 ef sl cm pp z1 z2 z3) (wc := [(h0, .inr (8, [.ref a, .int (nI tz), .ref r0, .int fp, .int ld, .ref p0, .ref m0, .ref x0, .ref oA, .ref oB, .ref ra, .ref cu])), (oA, .inr (2, [.int knA, .int flA, .int (nI stA), .int (nI sA), .ref bA])), (bA, .inl (cI, rrA, .inl recA)), (oB, .inr (2, [.int knB, .int flB, .int (nI stB), .int (nI sB), .ref bB])), (bB, .inl (cI, rrB, .inl recB)), (x0, .inr (1, [.int i0, .int i1, .ref a2, .ref a3, .ref s4, .ref s5, .int i6, .ref a7, .ref a8, .ref a9])), (s4, .inr (7, [.ref w4])), (w4, .inl (cI, 34, .inl f4)), (s5, .inr (7, [.ref w5])), (w5, .inl (cI, 34, .inl f5)), (a2, .inl (cI, 3000, .inl ef)), (a7, .inl (cI, rl, .inl rf)), (a8, .inl (cI, 4096, .inl sl)), (a9, .inl (cI, 3000, .inl cm)), (a3, .inl (cI, 38, .inl pp)), (p0, .inr (4, [.int (nI nc), .ref b1, .ref b2, .ref b3])), (b1, .inl (cI, 3, .inl (fun j => nI (L j)))), (b2, .inl (cI, 4, .inl cf)), (b3, .inl (cI, 192, .inl pf))]) (wr := [(a, .inl (cB, 4000, .inl f)), (r0, .inr (6, [.ref d0, .int pv, .int fv, .int lp, .ref k4, .ref k5, .ref k6, .ref k7, .int (nI t), .int tl, .int vr, .int vl])), (k4, .inl (cI, 501, .inl (fun j => nI (Kd j)))), (k5, .inl (cI, 501, .inl sf)), (k6, .inl (cI, 501, .inl nf)), (k7, .inl (cI, 6, .inl (fun j => nI (Tk j)))), (d0, .inr (4, [.int (nI ncd), .ref e1, .ref e2, .ref e3])), (e1, .inl (cI, 3, .inl (fun j => nI (Ld j)))), (e2, .inl (cI, 4, .inl cfd)), (e3, .inl (cI, 192, .inl pfd)), (m0, .inr (3, [.ref ms, .int vst, .int (nI vk), .int vm, .ref md])), (ms, .inr (7, [.ref mw])), (mw, .inl (cI, 34, .inl mf)), (md, .inl (cI, 38, .inl vd)), (ra, .inr (5, [.int rkn, .int ran, .int rr2, .int rr3, .int rr4, .int (nI rt), .ref a6])), (a6, .inl (cI, 38, .inl rpa)), (cu, .inr (0, [.ref f0, .int (nI lz), .int can, .ref a3l, .int cts, .ref a5t])), (a3l, .inl (cI, 2, .inl lk)), (a5t, .inl (cI, 2, .inl td)), (f0, .inr (4, [.int fc, .ref g1, .ref g2, .ref g3])), (g1, .inl (cI, 3, .inl (fun j => nI (FL j)))), (g2, .inl (cI, 4, .inl fcf)), (g3, .inl (cI, 192, .inl fpf))]) (va_runV (As := [.int z1, .int z2, .int z3]) (rest := []) ⟨hx, hb, hml, hown, hts⟩ (x_scheduleE l D cI cB cZ h0 oA oB ld (.ref a) (.int (nI tz)) (.ref r0) (.int fp) (.ref m0) (.ref ra) (.ref cu) p0 b1 b2 b3 nc L cf pf knA flA stA sA bA rrA recA knB flB stB sB bB rrB recB x0 a2 s4 w4 s5 w5 a8 a9 a3 i0 i1 i6 a7 rl rf f4 f5 ef sl cm pp z1 z2 z3 hc hL6 hI5 hsA hrA hmA hsB hrB hmB hbG hFA hFB hrl hrm _ _) (cwV 3 hts gP_law__x_scheduleE rfl rfl rfl (by decide +kernel) ⟨Nat.le_of_ble_eq_true rfl, Nat.le_of_ble_eq_true rfl⟩) (gw_preV (ci := 8) (q0 := 0) hK gN.nil (gq_Pl hP) (gq_Dl hD) [0, 19, 20, 21, 22, 32, 33, 34, 35, 36, 37, 38, 39, 40, 41, 7, 8, 9, 10] rfl rfl rfl rfl) rfl rfl hl.1 rfl (lv_room (Nat.le_of_ble_eq_true rfl)) dL_law_550 ⟨(Nat.le_trans (Nat.add_le_add_right hkb.1 _) (Nat.le_of_ble_eq_true rfl)), (Nat.le_trans (Nat.add_le_add_right hkb.2 _) (Nat.le_of_ble_eq_true rfl))⟩) hP hD hS hA [0, 19, 20, 21, 22, 32, 33, 34, 35, 36, 37, 38, 39, 40, 41, 7, 8, 9, 10] [1, 2, 3, 4, 5, 6, 11, 12, 13, 14, 15, 16, 17, 18, 23, 24, 25, 26, 27, 28, 29, 30, 31] rfl rfl rfl (by decide) (fun r1 w1 k1 n1 H locs hp hP hD hS => ?_)
    obtain ⟨e_1, hp⟩ := hp
    obtain ⟨e_2, hp⟩ := hp
    obtain ⟨e_3, hp⟩ := hp
    obtain ⟨e_4, hp⟩ := hp
    obtain ⟨e_5, hp⟩ := hp
    obtain ⟨e_6, hp⟩ := hp
    obtain ⟨e_7, hp⟩ := hp
    obtain ⟨e_8, hp⟩ := hp
    obtain ⟨e_9, hp⟩ := hp
    obtain ⟨e_10, hp⟩ := hp
    obtain ⟨e_11, hp⟩ := hp
    obtain ⟨e_12, hp⟩ := hp
    obtain ⟨e_13, hp⟩ := hp
    obtain ⟨e_14, hp⟩ := hp
    obtain ⟨e_15, hp⟩ := hp
    obtain ⟨e_16, hp⟩ := hp
    obtain ⟨e_17, hp⟩ := hp
    obtain ⟨e_18, hp⟩ := hp
    obtain ⟨e_19, hp⟩ := hp
    obtain ⟨e_20, hp⟩ := hp
    obtain ⟨e_21, hp⟩ := hp
    obtain ⟨e_22, hp⟩ := hp
    obtain ⟨e_23, hp⟩ := hp
    obtain ⟨e_24, hp⟩ := hp
    obtain ⟨e_25, hp⟩ := hp
    obtain ⟨e_26, hp⟩ := hp
    obtain ⟨e_27, hp⟩ := hp
    obtain ⟨hq_28, hp⟩ := hp
    obtain ⟨hq_29, hp⟩ := hp
    obtain ⟨hq_30, hp⟩ := hp
    obtain ⟨hq_31, hp⟩ := hp
    obtain ⟨hq_32, hp⟩ := hp
    obtain ⟨hq_33, hp⟩ := hp
    obtain ⟨hx550_0, hp⟩ := hp
    obtain ⟨hx550_1, hp⟩ := hp
    obtain ⟨hx550_2, hp⟩ := hp
    obtain ⟨hk1, hp⟩ := hp
    obtain ⟨hn1, hp⟩ := hp
    obtain ⟨h9, hp⟩ := hp
    subst hp
    have hk1 := hk1.symm; subst hk1; have hn1 := hn1.symm; subst hn1
    have h9 := h9.symm
    subst h9
    have hq_28 : e_5 * 17 ≤ e_7 := hq_28
    have hq_29 : rrA ≤ e_7 ∧ e_7 ≤ 51000 ∧ e_7 % 17 = 0 := hq_29
    have hq_30 : e_12 * 17 ≤ e_14 := hq_30
    have hq_31 : rrB ≤ e_14 ∧ e_14 ≤ 51000 ∧ e_14 % 17 = 0 := hq_31
    have hq_32 : rl ≤ e_20 := hq_32
    have hq_33 : gRl e_20 ∧ e_20 ≤ 102000 := hq_33
    have hx550_0 : ¬ e_2 = 0 → fSp pf cf L nc 1 e_3 e_4 e_5 e_8 := hx550_0
    have hx550_1 : ¬ e_9 = 0 → fSp pf cf L nc 0 e_10 e_11 e_12 e_15 := hx550_1
    have hx550_2 : rSc pf cf L nc ld z1 z2 z3 e_1 := hx550_2
    refine W.widen (k := 63 + (rrA / 17) + (rrB / 17) + 10 + ((rl - 1600) / 4800) + (((e_20 - rl) / 4800) + ((e_7 - rrA) / 17) + ((e_14 - rrB) / 17))) (n := 584682 + (2 * rrA + 51000 * (rrA / 51000)) + (2 * rrB + 51000 * (rrB / 51000)) + 11814 + (2 * (rl - 1600)) + ((2 * (e_20 - rl)) + ((2 * e_7 + 51000 * (e_7 / 51000)) - (2 * rrA + 51000 * (rrA / 51000))) + ((2 * e_14 + 51000 * (e_14 / 51000)) - (2 * rrB + 51000 * (rrB / 51000))))) (Nat.le_refl _) (Nat.le_refl _) ?_
    have hP := gq_subP (X' := [(h0, .inr (8, [.ref a, .int (nI tz), .ref r0, .int fp, .int ld, .ref p0, .ref m0, .ref x0, .ref oA, .ref oB, .ref ra, .ref cu])), (a, .inl (cB, 4000, .inl f)), (r0, .inr (6, [.ref d0, .int pv, .int fv, .int lp, .ref k4, .ref k5, .ref k6, .ref k7, .int (nI t), .int tl, .int vr, .int vl])), (k4, .inl (cI, 501, .inl (fun j => nI (Kd j)))), (k5, .inl (cI, 501, .inl sf)), (k6, .inl (cI, 501, .inl nf)), (k7, .inl (cI, 6, .inl (fun j => nI (Tk j)))), (p0, .inr (4, [.int (nI nc), .ref b1, .ref b2, .ref b3])), (b1, .inl (cI, 3, .inl (fun j => nI (L j)))), (b2, .inl (cI, 4, .inl cf)), (b3, .inl (cI, 192, .inl pf)), (d0, .inr (4, [.int (nI ncd), .ref e1, .ref e2, .ref e3])), (e1, .inl (cI, 3, .inl (fun j => nI (Ld j)))), (e2, .inl (cI, 4, .inl cfd)), (e3, .inl (cI, 192, .inl pfd)), (m0, .inr (3, [.ref ms, .int vst, .int (nI vk), .int vm, .ref md])), (ms, .inr (7, [.ref mw])), (mw, .inl (cI, 34, .inl mf)), (md, .inl (cI, 38, .inl vd)), (oA, .inr (2, [.int e_2, .int e_3, .int (nI e_4), .int (nI e_5), .ref e_6])), (e_6, .inl (cI, e_7, .inl e_8)), (oB, .inr (2, [.int e_9, .int e_10, .int (nI e_11), .int (nI e_12), .ref e_13])), (e_13, .inl (cI, e_14, .inl e_15)), (ra, .inr (5, [.int rkn, .int ran, .int rr2, .int rr3, .int rr4, .int (nI rt), .ref a6])), (a6, .inl (cI, 38, .inl rpa)), (cu, .inr (0, [.ref f0, .int (nI lz), .int can, .ref a3l, .int cts, .ref a5t])), (a3l, .inl (cI, 2, .inl lk)), (a5t, .inl (cI, 2, .inl td)), (f0, .inr (4, [.int fc, .ref g1, .ref g2, .ref g3])), (g1, .inl (cI, 3, .inl (fun j => nI (FL j)))), (g2, .inl (cI, 4, .inl fcf)), (g3, .inl (cI, 192, .inl fpf)), (x0, .inr (1, [.int e_16, .int e_17, .ref a2, .ref a3, .ref s4, .ref s5, .int e_18, .ref e_19, .ref a8, .ref a9])), (s4, .inr (7, [.ref w4])), (w4, .inl (cI, 34, .inl e_22)), (s5, .inr (7, [.ref w5])), (w5, .inl (cI, 34, .inl e_23)), (a2, .inl (cI, 3000, .inl e_24)), (e_19, .inl (cI, e_20, .inl e_21)), (a8, .inl (cI, 4096, .inl e_25)), (a9, .inl (cI, 3000, .inl e_26)), (a3, .inl (cI, 38, .inl e_27))]) hP [23, 0, 1, 2, 3, 4, 5, 38, 39, 40, 41, 6, 7, 8, 9, 10, 11, 12, 13, 24, 25, 26, 27, 14, 15, 16, 17, 18, 19, 20, 21, 22, 28, 29, 30, 31, 32, 33, 34, 35, 36, 37] rfl
    have hD := gq_subD (X' := [(h0, .inr (8, [.ref a, .int (nI tz), .ref r0, .int fp, .int ld, .ref p0, .ref m0, .ref x0, .ref oA, .ref oB, .ref ra, .ref cu])), (a, .inl (cB, 4000, .inl f)), (r0, .inr (6, [.ref d0, .int pv, .int fv, .int lp, .ref k4, .ref k5, .ref k6, .ref k7, .int (nI t), .int tl, .int vr, .int vl])), (k4, .inl (cI, 501, .inl (fun j => nI (Kd j)))), (k5, .inl (cI, 501, .inl sf)), (k6, .inl (cI, 501, .inl nf)), (k7, .inl (cI, 6, .inl (fun j => nI (Tk j)))), (p0, .inr (4, [.int (nI nc), .ref b1, .ref b2, .ref b3])), (b1, .inl (cI, 3, .inl (fun j => nI (L j)))), (b2, .inl (cI, 4, .inl cf)), (b3, .inl (cI, 192, .inl pf)), (d0, .inr (4, [.int (nI ncd), .ref e1, .ref e2, .ref e3])), (e1, .inl (cI, 3, .inl (fun j => nI (Ld j)))), (e2, .inl (cI, 4, .inl cfd)), (e3, .inl (cI, 192, .inl pfd)), (m0, .inr (3, [.ref ms, .int vst, .int (nI vk), .int vm, .ref md])), (ms, .inr (7, [.ref mw])), (mw, .inl (cI, 34, .inl mf)), (md, .inl (cI, 38, .inl vd)), (oA, .inr (2, [.int e_2, .int e_3, .int (nI e_4), .int (nI e_5), .ref e_6])), (e_6, .inl (cI, e_7, .inl e_8)), (oB, .inr (2, [.int e_9, .int e_10, .int (nI e_11), .int (nI e_12), .ref e_13])), (e_13, .inl (cI, e_14, .inl e_15)), (ra, .inr (5, [.int rkn, .int ran, .int rr2, .int rr3, .int rr4, .int (nI rt), .ref a6])), (a6, .inl (cI, 38, .inl rpa)), (cu, .inr (0, [.ref f0, .int (nI lz), .int can, .ref a3l, .int cts, .ref a5t])), (a3l, .inl (cI, 2, .inl lk)), (a5t, .inl (cI, 2, .inl td)), (f0, .inr (4, [.int fc, .ref g1, .ref g2, .ref g3])), (g1, .inl (cI, 3, .inl (fun j => nI (FL j)))), (g2, .inl (cI, 4, .inl fcf)), (g3, .inl (cI, 192, .inl fpf)), (x0, .inr (1, [.int e_16, .int e_17, .ref a2, .ref a3, .ref s4, .ref s5, .int e_18, .ref e_19, .ref a8, .ref a9])), (s4, .inr (7, [.ref w4])), (w4, .inl (cI, 34, .inl e_22)), (s5, .inr (7, [.ref w5])), (w5, .inl (cI, 34, .inl e_23)), (a2, .inl (cI, 3000, .inl e_24)), (e_19, .inl (cI, e_20, .inl e_21)), (a8, .inl (cI, 4096, .inl e_25)), (a9, .inl (cI, 3000, .inl e_26)), (a3, .inl (cI, 38, .inl e_27))]) hD [23, 0, 1, 2, 3, 4, 5, 38, 39, 40, 41, 6, 7, 8, 9, 10, 11, 12, 13, 24, 25, 26, 27, 14, 15, 16, 17, 18, 19, 20, 21, 22, 28, 29, 30, 31, 32, 33, 34, 35, 36, 37] (by decide) rfl
    refine W.widen (k := 63 + (e_7 / 17) + (e_14 / 17) + 10 + ((e_20 - 1600) / 4800)) (n := 584682 + (2 * e_7 + 51000 * (e_7 / 51000)) + (2 * e_14 + 51000 * (e_14 / 51000)) + 11814 + (2 * (e_20 - 1600))) (gq_wE (hq_29).1 hrA.2 (hq_29).2.2 (hq_31).1 hrB.2 (hq_31).2.2 hq_32 hrm.1).1 (gq_wE (hq_29).1 hrA.2 (hq_29).2.2 (hq_31).1 hrB.2 (hq_31).2.2 hq_32 hrm.1).2 ?_
    exact kk e_1 _ tz f fp ld nc L cf pf vst vk vm vd _ _ H locs (Or.inr (HallE_mk cI cB cZ h0 tz f fp ld nc L cf pf vst vk vm vd a r0 k4 k5 k6 k7 p0 b1 b2 b3 d0 e1 e2 e3 m0 ms mw md oA oB ra a6 cu f0 g1 g2 g3 a3l a5t pv fv lp t tl vr vl Kd sf nf Tk ncd Ld cfd pfd mf e_2 e_3 e_4 e_5 e_6 e_7 e_8 e_9 e_10 e_11 e_12 e_13 e_14 e_15 rkn ran rr2 rr3 rr4 rt rpa lz can cts td lk fc FL fcf fpf x0 a2 s4 w4 s5 w5 a8 a9 a3 e_16 e_17 e_18 e_19 e_20 e_21 e_22 e_23 e_24 e_25 e_26 e_27 htz hR hTk hgo hmk hM hq_28 ⟨Nat.le_trans hrA.1 (hq_29).1, (hq_29).2.2⟩ (hq_29).2.1 hq_30 ⟨Nat.le_trans hrB.1 (hq_31).1, (hq_31).2.2⟩ (hq_31).2.1 hrt hlz hCm (hq_33).1 ⟨Nat.le_trans hrm.1 hq_32, (hq_33).2⟩ hx550_0 hx550_1)) ⟨⟨hx550_2, hgo⟩, rfl, rfl, rfl, rfl, rfl, rfl, rfl, rfl, rfl, rfl, rfl, rfl⟩ hP hD hS
