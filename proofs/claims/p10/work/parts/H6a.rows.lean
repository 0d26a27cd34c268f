theorem gFd_le {tz tz9 : Nat} {r : Int32} {f f9 g9 : Nat → Int32} (h : (3980 < tz ∧ r = (-1) ∧ tz9 = tz ∧ f9 = f) ∨ (tz ≤ 3980 ∧ r = nI (tz + 20) ∧ tz9 = tz + 20 ∧ f9 = g9)) (ht : tz ≤ 4000) : tz9 ≤ 4000 := by
  rcases h with ⟨_, _, e, _⟩ | ⟨h1, _, e, _⟩ <;> omega
theorem gBk_le {z : Int32} {tz tz9 : Nat} {a : Int32} (h : tz ≤ 4000) (hb : (z = (-1) ∧ tz9 = tz ∧ (a < 0 ∨ ¬ a ≤ nI tz)) ∨ (∃ j, j ≤ tz ∧ a = nI j ∧ z = nI (tz - j) ∧ tz9 = tz - j)) : tz9 ≤ 4000 := by
  rcases hb with ⟨_, e, _⟩ | ⟨j, _, _, _, e⟩
  · rw [e]; exact h
  · rw [e]; exact Nat.le_trans (Nat.sub_le _ _) h

set_option maxHeartbeats 4000000 in
set_option maxRecDepth 100000 in
theorem hl_feed {p : Program} {l : Launch} {e : Env} {s : State} {m : MethodId} {below : List Frame} {meth : Method} {c : Code} {b : Nat} {A : Nat → Prop} {Q : State → Prop} {D : va_G} {cI cB cZ : ClassId} {K : gKS} (G : gL p s m c b A D cI cB cZ K) {H : Heap} {locs : List Loc} {ls : Array Slot} {w8 w9 : va_W} {h0 tz kc ns : Nat} {f : Nat → Int32} {fp ld : Int32} {nc : Nat} {L : Nat → Nat} {cf : Nat → Int32} {pf : Nat → Int32} {vst : Int32} {vk : Nat} {vm : Int32} {vd : Nat → Int32} (hH : HallI cI cB cZ h0 w8 tz f fp ld nc L cf pf vst vk vm vd kc ns) (hP : va_P D vwCl (w8 ++ w9) H) (hD : va_D A (w8 ++ w9)) (hS : va_S A s.heap H locs) (hl : ls.size = 4 ∧ True) (z1 : Int32) (z2 : Int32) (z3 : Int32) (z4 : Int32) (z5 : Int32) (kk : ∀ (r : Int32) (w8' : va_W) (tz9 : Nat) (f9 : Nat → Int32) (fp9 ld9 : Int32) (nc9 : Nat) (L9 : Nat → Nat) (cf9 : Nat → Int32) (pf9 : Nat → Int32) (vst9 : Int32) (vk9 : Nat) (vm9 : Int32) (vd9 : Nat → Int32) (kc9 ns9 : Nat) (H1 : Heap) (locs1 : List Loc), HallI cI cB cZ h0 w8' tz9 f9 fp9 ld9 nc9 L9 cf9 pf9 vst9 vk9 vm9 vd9 kc9 ns9 → (((3980 < tz ∧ r = (-1) ∧ tz9 = tz ∧ f9 = f) ∨ (tz ≤ 3980 ∧ r = nI (tz + 20) ∧ tz9 = tz + 20 ∧ f9 = rF5 f tz z1 z2 z3 z4 z5)) ∧ fp = fp9 ∧ ld = ld9 ∧ nc = nc9 ∧ L = L9 ∧ cf = cf9 ∧ pf = pf9 ∧ vst = vst9 ∧ vk = vk9 ∧ vm = vm9 ∧ vd = vd9) → va_P D vwCl (w8' ++ w9) H1 → va_D A (w8' ++ w9) → va_S A s.heap H1 locs1 → W p l e room_1 s m #[Value.ref b] below meth c H1 locs1 kc9 ns9 Q (F0 m 161 ls [.int r])) : W p l e room_1 s m #[Value.ref b] below meth c H locs kc ns Q (F0 m 158 ls [.int z5, .int z4, .int z3, .int z2, .int z1, .ref h0]) := by
  obtain ⟨hx, hb, hml, hown, hts, hA, hK, hN, hE⟩ := G
  rcases hH with hH | hH
  · unfold HallN at hH
    obtain ⟨a, hH⟩ := hH
    obtain ⟨r0, hH⟩ := hH
    obtain ⟨k4, hH⟩ := hH
    obtain ⟨k5, hH⟩ := hH
    obtain ⟨k6, hH⟩ := hH
    obtain ⟨k7, hH⟩ := hH
    obtain ⟨p0, hH⟩ := hH
    obtain ⟨b1, hH⟩ := hH
    obtain ⟨b2, hH⟩ := hH
    obtain ⟨b3, hH⟩ := hH
    obtain ⟨d0, hH⟩ := hH
    obtain ⟨e1, hH⟩ := hH
    obtain ⟨e2, hH⟩ := hH
    obtain ⟨e3, hH⟩ := hH
    obtain ⟨m0, hH⟩ := hH
    obtain ⟨ms, hH⟩ := hH
    obtain ⟨mw, hH⟩ := hH
    obtain ⟨md, hH⟩ := hH
    obtain ⟨oA, hH⟩ := hH
    obtain ⟨oB, hH⟩ := hH
    obtain ⟨ra, hH⟩ := hH
    obtain ⟨a6, hH⟩ := hH
    obtain ⟨cu, hH⟩ := hH
    obtain ⟨f0, hH⟩ := hH
    obtain ⟨g1, hH⟩ := hH
    obtain ⟨g2, hH⟩ := hH
    obtain ⟨g3, hH⟩ := hH
    obtain ⟨a3l, hH⟩ := hH
    obtain ⟨a5t, hH⟩ := hH
    obtain ⟨pv, hH⟩ := hH
    obtain ⟨fv, hH⟩ := hH
    obtain ⟨lp, hH⟩ := hH
    obtain ⟨t, hH⟩ := hH
    obtain ⟨tl, hH⟩ := hH
    obtain ⟨vr, hH⟩ := hH
    obtain ⟨vl, hH⟩ := hH
    obtain ⟨Kd, hH⟩ := hH
    obtain ⟨sf, hH⟩ := hH
    obtain ⟨nf, hH⟩ := hH
    obtain ⟨Tk, hH⟩ := hH
    obtain ⟨ncd, hH⟩ := hH
    obtain ⟨Ld, hH⟩ := hH
    obtain ⟨cfd, hH⟩ := hH
    obtain ⟨pfd, hH⟩ := hH
    obtain ⟨mf, hH⟩ := hH
    obtain ⟨flA, hH⟩ := hH
    obtain ⟨stA, hH⟩ := hH
    obtain ⟨sA, hH⟩ := hH
    obtain ⟨bA, hH⟩ := hH
    obtain ⟨rrA, hH⟩ := hH
    obtain ⟨recA, hH⟩ := hH
    obtain ⟨flB, hH⟩ := hH
    obtain ⟨stB, hH⟩ := hH
    obtain ⟨sB, hH⟩ := hH
    obtain ⟨bB, hH⟩ := hH
    obtain ⟨rrB, hH⟩ := hH
    obtain ⟨recB, hH⟩ := hH
    obtain ⟨ran, hH⟩ := hH
    obtain ⟨rr2, hH⟩ := hH
    obtain ⟨rr3, hH⟩ := hH
    obtain ⟨rr4, hH⟩ := hH
    obtain ⟨rt, hH⟩ := hH
    obtain ⟨rpa, hH⟩ := hH
    obtain ⟨lz, hH⟩ := hH
    obtain ⟨can, hH⟩ := hH
    obtain ⟨cts, hH⟩ := hH
    obtain ⟨td, hH⟩ := hH
    obtain ⟨lk, hH⟩ := hH
    obtain ⟨fc, hH⟩ := hH
    obtain ⟨FL, hH⟩ := hH
    obtain ⟨fcf, hH⟩ := hH
    obtain ⟨fpf, hH⟩ := hH
    obtain ⟨htz, hH⟩ := hH
    obtain ⟨hR, hH⟩ := hH
    obtain ⟨hTk, hH⟩ := hH
    obtain ⟨hgo, hH⟩ := hH
    obtain ⟨hmk, hH⟩ := hH
    obtain ⟨hM, hH⟩ := hH
    obtain ⟨hsA, hH⟩ := hH
    obtain ⟨hrA, hH⟩ := hH
    obtain ⟨hmA, hH⟩ := hH
    obtain ⟨hsB, hH⟩ := hH
    obtain ⟨hrB, hH⟩ := hH
    obtain ⟨hmB, hH⟩ := hH
    obtain ⟨hrt, hH⟩ := hH
    obtain ⟨hlz, hH⟩ := hH
    obtain ⟨rfl, rfl, rfl⟩ := hH
    obtain ⟨hc, hL6, hI5⟩ := id hgo
    have hL := gL6_8 hL6
    have hI := gG_up (b' := 7) hI5 (by decide)
    have hkb := gq_kN hmA hmB
    refine gq_goi (wc := [(h0, .inr (8, [.ref a, .int (nI tz), .ref r0, .int fp, .int ld, .ref p0, .ref m0, .null, .ref oA, .ref oB, .ref ra, .ref cu])), (a, .inl (cB, 4000, .inl f))]) (wr := [(r0, .inr (6, [.ref d0, .int pv, .int fv, .int lp, .ref k4, .ref k5, .ref k6, .ref k7, .int (nI t), .int tl, .int vr, .int vl])), (k4, .inl (cI, 501, .inl (fun j => nI (Kd j)))), (k5, .inl (cI, 501, .inl sf)), (k6, .inl (cI, 501, .inl nf)), (k7, .inl (cI, 6, .inl (fun j => nI (Tk j)))), (p0, .inr (4, [.int (nI nc), .ref b1, .ref b2, .ref b3])), (b1, .inl (cI, 3, .inl (fun j => nI (L j)))), (b2, .inl (cI, 4, .inl cf)), (b3, .inl (cI, 192, .inl pf)), (d0, .inr (4, [.int (nI ncd), .ref e1, .ref e2, .ref e3])), (e1, .inl (cI, 3, .inl (fun j => nI (Ld j)))), (e2, .inl (cI, 4, .inl cfd)), (e3, .inl (cI, 192, .inl pfd)), (m0, .inr (3, [.ref ms, .int vst, .int (nI vk), .int vm, .ref md])), (ms, .inr (7, [.ref mw])), (mw, .inl (cI, 34, .inl mf)), (md, .inl (cI, 38, .inl vd)), (oA, .inr (2, [.int 0, .int flA, .int (nI stA), .int (nI sA), .ref bA])), (bA, .inl (cI, rrA, .inl recA)), (oB, .inr (2, [.int 0, .int flB, .int (nI stB), .int (nI sB), .ref bB])), (bB, .inl (cI, rrB, .inl recB)), (ra, .inr (5, [.int 0, .int ran, .int rr2, .int rr3, .int rr4, .int (nI rt), .ref a6])), (a6, .inl (cI, 38, .inl rpa)), (cu, .inr (0, [.ref f0, .int (nI lz), .int can, .ref a3l, .int cts, .ref a5t])), (a3l, .inl (cI, 2, .inl lk)), (a5t, .inl (cI, 2, .inl td)), (f0, .inr (4, [.int fc, .ref g1, .ref g2, .ref g3])), (g1, .inl (cI, 3, .inl (fun j => nI (FL j)))), (g2, .inl (cI, 4, .inl fcf)), (g3, .inl (cI, 192, .inl fpf))]) (va_runV (As := [.int z1, .int z2, .int z3, .int z4, .int z5]) (rest := []) ⟨hx, hb, hml, hown, hts⟩ (x_X8_feed l D cI cB cZ h0 a (.ref r0) (.int fp) (.int ld) (.ref p0) (.ref m0) (.null) (.ref oA) (.ref oB) (.ref ra) (.ref cu) f tz z1 z2 z3 z4 z5 htz _) (cwV 5 hts gP_law__x_X8_feed rfl rfl rfl (by decide +kernel) ⟨Nat.le_of_ble_eq_true rfl, Nat.le_of_ble_eq_true rfl⟩) (gx_preV (ci := 8) (q0 := 0) hK gN.nil (gq_Pl hP) (gq_Dl hD) [0, 1] rfl rfl rfl rfl) rfl rfl hl.1 rfl (lv_room (Nat.le_of_ble_eq_true rfl)) dL_law_158 ⟨(Nat.le_trans (Nat.add_le_add_right hkb.1 _) (Nat.le_of_ble_eq_true rfl)), (Nat.le_trans (Nat.add_le_add_right hkb.2 _) (Nat.le_of_ble_eq_true rfl))⟩) hP hD hS hA [0, 1] [2, 3, 4, 5, 6, 7, 8, 9, 10, 11, 12, 13, 14, 15, 16, 17, 18, 19, 20, 21, 22, 23, 24, 25, 26, 27, 28, 29, 30, 31] rfl rfl rfl (by decide) (fun r1 w1 H locs hp hP hD hS => ?_)
    obtain ⟨e_1, hp⟩ := hp
    obtain ⟨e_2, hp⟩ := hp
    obtain ⟨e_3, hp⟩ := hp
    obtain ⟨hq_4, hp⟩ := hp
    obtain ⟨h9, hp⟩ := hp
    subst hp
    have h9 := h9.symm
    subst h9
    have hq_4 : (3980 < tz ∧ e_2 = (-1) ∧ e_3 = tz ∧ e_1 = f) ∨ (tz ≤ 3980 ∧ e_2 = nI (tz + 20) ∧ e_3 = tz + 20 ∧ e_1 = rF5 f tz z1 z2 z3 z4 z5) := hq_4
    have hP : va_P D vwCl ([(r0, .inr (6, [.ref d0, .int pv, .int fv, .int lp, .ref k4, .ref k5, .ref k6, .ref k7, .int (nI t), .int tl, .int vr, .int vl])), (k4, .inl (cI, 501, .inl (fun j => nI (Kd j)))), (k5, .inl (cI, 501, .inl sf)), (k6, .inl (cI, 501, .inl nf)), (k7, .inl (cI, 6, .inl (fun j => nI (Tk j)))), (p0, .inr (4, [.int (nI nc), .ref b1, .ref b2, .ref b3])), (b1, .inl (cI, 3, .inl (fun j => nI (L j)))), (b2, .inl (cI, 4, .inl cf)), (b3, .inl (cI, 192, .inl pf)), (d0, .inr (4, [.int (nI ncd), .ref e1, .ref e2, .ref e3])), (e1, .inl (cI, 3, .inl (fun j => nI (Ld j)))), (e2, .inl (cI, 4, .inl cfd)), (e3, .inl (cI, 192, .inl pfd)), (m0, .inr (3, [.ref ms, .int vst, .int (nI vk), .int vm, .ref md])), (ms, .inr (7, [.ref mw])), (mw, .inl (cI, 34, .inl mf)), (md, .inl (cI, 38, .inl vd)), (oA, .inr (2, [.int 0, .int flA, .int (nI stA), .int (nI sA), .ref bA])), (bA, .inl (cI, rrA, .inl recA)), (oB, .inr (2, [.int 0, .int flB, .int (nI stB), .int (nI sB), .ref bB])), (bB, .inl (cI, rrB, .inl recB)), (ra, .inr (5, [.int 0, .int ran, .int rr2, .int rr3, .int rr4, .int (nI rt), .ref a6])), (a6, .inl (cI, 38, .inl rpa)), (cu, .inr (0, [.ref f0, .int (nI lz), .int can, .ref a3l, .int cts, .ref a5t])), (a3l, .inl (cI, 2, .inl lk)), (a5t, .inl (cI, 2, .inl td)), (f0, .inr (4, [.int fc, .ref g1, .ref g2, .ref g3])), (g1, .inl (cI, 3, .inl (fun j => nI (FL j)))), (g2, .inl (cI, 4, .inl fcf)), (g3, .inl (cI, 192, .inl fpf)), (h0, .inr (8, [.ref a, .int (nI e_3), .ref r0, .int fp, .int ld, .ref p0, .ref m0, .null, .ref oA, .ref oB, .ref ra, .ref cu])), (a, .inl (cB, 4000, .inl e_1))] ++ w9) H := hP
    have hD : va_D A ([(r0, .inr (6, [.ref d0, .int pv, .int fv, .int lp, .ref k4, .ref k5, .ref k6, .ref k7, .int (nI t), .int tl, .int vr, .int vl])), (k4, .inl (cI, 501, .inl (fun j => nI (Kd j)))), (k5, .inl (cI, 501, .inl sf)), (k6, .inl (cI, 501, .inl nf)), (k7, .inl (cI, 6, .inl (fun j => nI (Tk j)))), (p0, .inr (4, [.int (nI nc), .ref b1, .ref b2, .ref b3])), (b1, .inl (cI, 3, .inl (fun j => nI (L j)))), (b2, .inl (cI, 4, .inl cf)), (b3, .inl (cI, 192, .inl pf)), (d0, .inr (4, [.int (nI ncd), .ref e1, .ref e2, .ref e3])), (e1, .inl (cI, 3, .inl (fun j => nI (Ld j)))), (e2, .inl (cI, 4, .inl cfd)), (e3, .inl (cI, 192, .inl pfd)), (m0, .inr (3, [.ref ms, .int vst, .int (nI vk), .int vm, .ref md])), (ms, .inr (7, [.ref mw])), (mw, .inl (cI, 34, .inl mf)), (md, .inl (cI, 38, .inl vd)), (oA, .inr (2, [.int 0, .int flA, .int (nI stA), .int (nI sA), .ref bA])), (bA, .inl (cI, rrA, .inl recA)), (oB, .inr (2, [.int 0, .int flB, .int (nI stB), .int (nI sB), .ref bB])), (bB, .inl (cI, rrB, .inl recB)), (ra, .inr (5, [.int 0, .int ran, .int rr2, .int rr3, .int rr4, .int (nI rt), .ref a6])), (a6, .inl (cI, 38, .inl rpa)), (cu, .inr (0, [.ref f0, .int (nI lz), .int can, .ref a3l, .int cts, .ref a5t])), (a3l, .inl (cI, 2, .inl lk)), (a5t, .inl (cI, 2, .inl td)), (f0, .inr (4, [.int fc, .ref g1, .ref g2, .ref g3])), (g1, .inl (cI, 3, .inl (fun j => nI (FL j)))), (g2, .inl (cI, 4, .inl fcf)), (g3, .inl (cI, 192, .inl fpf)), (h0, .inr (8, [.ref a, .int (nI e_3), .ref r0, .int fp, .int ld, .ref p0, .ref m0, .null, .ref oA, .ref oB, .ref ra, .ref cu])), (a, .inl (cB, 4000, .inl e_1))] ++ w9) := hD
    refine W.widen (k := 63 + (rrA / 17) + (rrB / 17)) (n := 584682 + (2 * rrA + 51000 * (rrA / 51000)) + (2 * rrB + 51000 * (rrB / 51000))) (Nat.le_refl _) (Nat.le_refl _) ?_
    have hP := gq_subP (X' := [(h0, .inr (8, [.ref a, .int (nI e_3), .ref r0, .int fp, .int ld, .ref p0, .ref m0, .null, .ref oA, .ref oB, .ref ra, .ref cu])), (a, .inl (cB, 4000, .inl e_1)), (r0, .inr (6, [.ref d0, .int pv, .int fv, .int lp, .ref k4, .ref k5, .ref k6, .ref k7, .int (nI t), .int tl, .int vr, .int vl])), (k4, .inl (cI, 501, .inl (fun j => nI (Kd j)))), (k5, .inl (cI, 501, .inl sf)), (k6, .inl (cI, 501, .inl nf)), (k7, .inl (cI, 6, .inl (fun j => nI (Tk j)))), (p0, .inr (4, [.int (nI nc), .ref b1, .ref b2, .ref b3])), (b1, .inl (cI, 3, .inl (fun j => nI (L j)))), (b2, .inl (cI, 4, .inl cf)), (b3, .inl (cI, 192, .inl pf)), (d0, .inr (4, [.int (nI ncd), .ref e1, .ref e2, .ref e3])), (e1, .inl (cI, 3, .inl (fun j => nI (Ld j)))), (e2, .inl (cI, 4, .inl cfd)), (e3, .inl (cI, 192, .inl pfd)), (m0, .inr (3, [.ref ms, .int vst, .int (nI vk), .int vm, .ref md])), (ms, .inr (7, [.ref mw])), (mw, .inl (cI, 34, .inl mf)), (md, .inl (cI, 38, .inl vd)), (oA, .inr (2, [.int 0, .int flA, .int (nI stA), .int (nI sA), .ref bA])), (bA, .inl (cI, rrA, .inl recA)), (oB, .inr (2, [.int 0, .int flB, .int (nI stB), .int (nI sB), .ref bB])), (bB, .inl (cI, rrB, .inl recB)), (ra, .inr (5, [.int 0, .int ran, .int rr2, .int rr3, .int rr4, .int (nI rt), .ref a6])), (a6, .inl (cI, 38, .inl rpa)), (cu, .inr (0, [.ref f0, .int (nI lz), .int can, .ref a3l, .int cts, .ref a5t])), (a3l, .inl (cI, 2, .inl lk)), (a5t, .inl (cI, 2, .inl td)), (f0, .inr (4, [.int fc, .ref g1, .ref g2, .ref g3])), (g1, .inl (cI, 3, .inl (fun j => nI (FL j)))), (g2, .inl (cI, 4, .inl fcf)), (g3, .inl (cI, 192, .inl fpf))]) hP [30, 31, 0, 1, 2, 3, 4, 5, 6, 7, 8, 9, 10, 11, 12, 13, 14, 15, 16, 17, 18, 19, 20, 21, 22, 23, 24, 25, 26, 27, 28, 29] rfl
    have hD := gq_subD (X' := [(h0, .inr (8, [.ref a, .int (nI e_3), .ref r0, .int fp, .int ld, .ref p0, .ref m0, .null, .ref oA, .ref oB, .ref ra, .ref cu])), (a, .inl (cB, 4000, .inl e_1)), (r0, .inr (6, [.ref d0, .int pv, .int fv, .int lp, .ref k4, .ref k5, .ref k6, .ref k7, .int (nI t), .int tl, .int vr, .int vl])), (k4, .inl (cI, 501, .inl (fun j => nI (Kd j)))), (k5, .inl (cI, 501, .inl sf)), (k6, .inl (cI, 501, .inl nf)), (k7, .inl (cI, 6, .inl (fun j => nI (Tk j)))), (p0, .inr (4, [.int (nI nc), .ref b1, .ref b2, .ref b3])), (b1, .inl (cI, 3, .inl (fun j => nI (L j)))), (b2, .inl (cI, 4, .inl cf)), (b3, .inl (cI, 192, .inl pf)), (d0, .inr (4, [.int (nI ncd), .ref e1, .ref e2, .ref e3])), (e1, .inl (cI, 3, .inl (fun j => nI (Ld j)))), (e2, .inl (cI, 4, .inl cfd)), (e3, .inl (cI, 192, .inl pfd)), (m0, .inr (3, [.ref ms, .int vst, .int (nI vk), .int vm, .ref md])), (ms, .inr (7, [.ref mw])), (mw, .inl (cI, 34, .inl mf)), (md, .inl (cI, 38, .inl vd)), (oA, .inr (2, [.int 0, .int flA, .int (nI stA), .int (nI sA), .ref bA])), (bA, .inl (cI, rrA, .inl recA)), (oB, .inr (2, [.int 0, .int flB, .int (nI stB), .int (nI sB), .ref bB])), (bB, .inl (cI, rrB, .inl recB)), (ra, .inr (5, [.int 0, .int ran, .int rr2, .int rr3, .int rr4, .int (nI rt), .ref a6])), (a6, .inl (cI, 38, .inl rpa)), (cu, .inr (0, [.ref f0, .int (nI lz), .int can, .ref a3l, .int cts, .ref a5t])), (a3l, .inl (cI, 2, .inl lk)), (a5t, .inl (cI, 2, .inl td)), (f0, .inr (4, [.int fc, .ref g1, .ref g2, .ref g3])), (g1, .inl (cI, 3, .inl (fun j => nI (FL j)))), (g2, .inl (cI, 4, .inl fcf)), (g3, .inl (cI, 192, .inl fpf))]) hD [30, 31, 0, 1, 2, 3, 4, 5, 6, 7, 8, 9, 10, 11, 12, 13, 14, 15, 16, 17, 18, 19, 20, 21, 22, 23, 24, 25, 26, 27, 28, 29] (by decide) rfl
    exact kk e_2 _ e_3 e_1 fp ld nc L cf pf vst vk vm vd _ _ H locs (Or.inl (HallN_mk cI cB cZ h0 e_3 e_1 fp ld nc L cf pf vst vk vm vd a r0 k4 k5 k6 k7 p0 b1 b2 b3 d0 e1 e2 e3 m0 ms mw md oA oB ra a6 cu f0 g1 g2 g3 a3l a5t pv fv lp t tl vr vl Kd sf nf Tk ncd Ld cfd pfd mf flA stA sA bA rrA recA flB stB sB bB rrB recB ran rr2 rr3 rr4 rt rpa lz can cts td lk fc FL fcf fpf (gFd_le hq_4 htz) hR hTk hgo hmk hM hsA hrA hmA hsB hrB hmB hrt hlz)) ⟨hq_4, rfl, rfl, rfl, rfl, rfl, rfl, rfl, rfl, rfl, rfl⟩ hP hD hS
  · unfold HallE at hH
    obtain ⟨a, hH⟩ := hH
    obtain ⟨r0, hH⟩ := hH
    obtain ⟨k4, hH⟩ := hH
    obtain ⟨k5, hH⟩ := hH
    obtain ⟨k6, hH⟩ := hH
    obtain ⟨k7, hH⟩ := hH
    obtain ⟨p0, hH⟩ := hH
    obtain ⟨b1, hH⟩ := hH
    obtain ⟨b2, hH⟩ := hH
    obtain ⟨b3, hH⟩ := hH
    obtain ⟨d0, hH⟩ := hH
    obtain ⟨e1, hH⟩ := hH
    obtain ⟨e2, hH⟩ := hH
    obtain ⟨e3, hH⟩ := hH
    obtain ⟨m0, hH⟩ := hH
    obtain ⟨ms, hH⟩ := hH
    obtain ⟨mw, hH⟩ := hH
    obtain ⟨md, hH⟩ := hH
    obtain ⟨oA, hH⟩ := hH
    obtain ⟨oB, hH⟩ := hH
    obtain ⟨ra, hH⟩ := hH
    obtain ⟨a6, hH⟩ := hH
    obtain ⟨cu, hH⟩ := hH
    obtain ⟨f0, hH⟩ := hH
    obtain ⟨g1, hH⟩ := hH
    obtain ⟨g2, hH⟩ := hH
    obtain ⟨g3, hH⟩ := hH
    obtain ⟨a3l, hH⟩ := hH
    obtain ⟨a5t, hH⟩ := hH
    obtain ⟨pv, hH⟩ := hH
    obtain ⟨fv, hH⟩ := hH
    obtain ⟨lp, hH⟩ := hH
    obtain ⟨t, hH⟩ := hH
    obtain ⟨tl, hH⟩ := hH
    obtain ⟨vr, hH⟩ := hH
    obtain ⟨vl, hH⟩ := hH
    obtain ⟨Kd, hH⟩ := hH
    obtain ⟨sf, hH⟩ := hH
    obtain ⟨nf, hH⟩ := hH
    obtain ⟨Tk, hH⟩ := hH
    obtain ⟨ncd, hH⟩ := hH
    obtain ⟨Ld, hH⟩ := hH
    obtain ⟨cfd, hH⟩ := hH
    obtain ⟨pfd, hH⟩ := hH
    obtain ⟨mf, hH⟩ := hH
    obtain ⟨knA, hH⟩ := hH
    obtain ⟨flA, hH⟩ := hH
    obtain ⟨stA, hH⟩ := hH
    obtain ⟨sA, hH⟩ := hH
    obtain ⟨bA, hH⟩ := hH
    obtain ⟨rrA, hH⟩ := hH
    obtain ⟨recA, hH⟩ := hH
    obtain ⟨knB, hH⟩ := hH
    obtain ⟨flB, hH⟩ := hH
    obtain ⟨stB, hH⟩ := hH
    obtain ⟨sB, hH⟩ := hH
    obtain ⟨bB, hH⟩ := hH
    obtain ⟨rrB, hH⟩ := hH
    obtain ⟨recB, hH⟩ := hH
    obtain ⟨rkn, hH⟩ := hH
    obtain ⟨ran, hH⟩ := hH
    obtain ⟨rr2, hH⟩ := hH
    obtain ⟨rr3, hH⟩ := hH
    obtain ⟨rr4, hH⟩ := hH
    obtain ⟨rt, hH⟩ := hH
    obtain ⟨rpa, hH⟩ := hH
    obtain ⟨lz, hH⟩ := hH
    obtain ⟨can, hH⟩ := hH
    obtain ⟨cts, hH⟩ := hH
    obtain ⟨td, hH⟩ := hH
    obtain ⟨lk, hH⟩ := hH
    obtain ⟨fc, hH⟩ := hH
    obtain ⟨FL, hH⟩ := hH
    obtain ⟨fcf, hH⟩ := hH
    obtain ⟨fpf, hH⟩ := hH
    obtain ⟨x0, hH⟩ := hH
    obtain ⟨a2, hH⟩ := hH
    obtain ⟨s4, hH⟩ := hH
    obtain ⟨w4, hH⟩ := hH
    obtain ⟨s5, hH⟩ := hH
    obtain ⟨w5, hH⟩ := hH
    obtain ⟨a8, hH⟩ := hH
    obtain ⟨a9, hH⟩ := hH
    obtain ⟨a3, hH⟩ := hH
    obtain ⟨i0, hH⟩ := hH
    obtain ⟨i1, hH⟩ := hH
    obtain ⟨i6, hH⟩ := hH
    obtain ⟨a7, hH⟩ := hH
    obtain ⟨rl, hH⟩ := hH
    obtain ⟨rf, hH⟩ := hH
    obtain ⟨f4, hH⟩ := hH
    obtain ⟨f5, hH⟩ := hH
    obtain ⟨ef, hH⟩ := hH
    obtain ⟨sl, hH⟩ := hH
    obtain ⟨cm, hH⟩ := hH
    obtain ⟨pp, hH⟩ := hH
    obtain ⟨htz, hH⟩ := hH
    obtain ⟨hR, hH⟩ := hH
    obtain ⟨hTk, hH⟩ := hH
    obtain ⟨hgo, hH⟩ := hH
    obtain ⟨hmk, hH⟩ := hH
    obtain ⟨hM, hH⟩ := hH
    obtain ⟨hsA, hH⟩ := hH
    obtain ⟨hrA, hH⟩ := hH
    obtain ⟨hmA, hH⟩ := hH
    obtain ⟨hsB, hH⟩ := hH
    obtain ⟨hrB, hH⟩ := hH
    obtain ⟨hmB, hH⟩ := hH
    obtain ⟨hrt, hH⟩ := hH
    obtain ⟨hlz, hH⟩ := hH
    obtain ⟨hrl, hH⟩ := hH
    obtain ⟨hrm, hH⟩ := hH
    obtain ⟨rfl, rfl, rfl⟩ := hH
    obtain ⟨hc, hL6, hI5⟩ := id hgo
    have hL := gL6_8 hL6
    have hI := gG_up (b' := 7) hI5 (by decide)
    have hkb := gq_k hmA hmB hrm.2
    refine gq_goi (wc := [(h0, .inr (8, [.ref a, .int (nI tz), .ref r0, .int fp, .int ld, .ref p0, .ref m0, .ref x0, .ref oA, .ref oB, .ref ra, .ref cu])), (a, .inl (cB, 4000, .inl f))]) (wr := [(r0, .inr (6, [.ref d0, .int pv, .int fv, .int lp, .ref k4, .ref k5, .ref k6, .ref k7, .int (nI t), .int tl, .int vr, .int vl])), (k4, .inl (cI, 501, .inl (fun j => nI (Kd j)))), (k5, .inl (cI, 501, .inl sf)), (k6, .inl (cI, 501, .inl nf)), (k7, .inl (cI, 6, .inl (fun j => nI (Tk j)))), (p0, .inr (4, [.int (nI nc), .ref b1, .ref b2, .ref b3])), (b1, .inl (cI, 3, .inl (fun j => nI (L j)))), (b2, .inl (cI, 4, .inl cf)), (b3, .inl (cI, 192, .inl pf)), (d0, .inr (4, [.int (nI ncd), .ref e1, .ref e2, .ref e3])), (e1, .inl (cI, 3, .inl (fun j => nI (Ld j)))), (e2, .inl (cI, 4, .inl cfd)), (e3, .inl (cI, 192, .inl pfd)), (m0, .inr (3, [.ref ms, .int vst, .int (nI vk), .int vm, .ref md])), (ms, .inr (7, [.ref mw])), (mw, .inl (cI, 34, .inl mf)), (md, .inl (cI, 38, .inl vd)), (oA, .inr (2, [.int knA, .int flA, .int (nI stA), .int (nI sA), .ref bA])), (bA, .inl (cI, rrA, .inl recA)), (oB, .inr (2, [.int knB, .int flB, .int (nI stB), .int (nI sB), .ref bB])), (bB, .inl (cI, rrB, .inl recB)), (ra, .inr (5, [.int rkn, .int ran, .int rr2, .int rr3, .int rr4, .int (nI rt), .ref a6])), (a6, .inl (cI, 38, .inl rpa)), (cu, .inr (0, [.ref f0, .int (nI lz), .int can, .ref a3l, .int cts, .ref a5t])), (a3l, .inl (cI, 2, .inl lk)), (a5t, .inl (cI, 2, .inl td)), (f0, .inr (4, [.int fc, .ref g1, .ref g2, .ref g3])), (g1, .inl (cI, 3, .inl (fun j => nI (FL j)))), (g2, .inl (cI, 4, .inl fcf)), (g3, .inl (cI, 192, .inl fpf)), (x0, .inr (1, [.int i0, .int i1, .ref a2, .ref a3, .ref s4, .ref s5, .int i6, .ref a7, .ref a8, .ref a9])), (s4, .inr (7, [.ref w4])), (w4, .inl (cI, 34, .inl f4)), (s5, .inr (7, [.ref w5])), (w5, .inl (cI, 34, .inl f5)), (a2, .inl (cI, 3000, .inl ef)), (a7, .inl (cI, rl, .inl rf)), (a8, .inl (cI, 4096, .inl sl)), (a9, .inl (cI, 3000, .inl cm)), (a3, .inl (cI, 38, .inl pp))]) (va_runV (As := [.int z1, .int z2, .int z3, .int z4, .int z5]) (rest := []) ⟨hx, hb, hml, hown, hts⟩ (x_X8_feed l D cI cB cZ h0 a (.ref r0) (.int fp) (.int ld) (.ref p0) (.ref m0) (.ref x0) (.ref oA) (.ref oB) (.ref ra) (.ref cu) f tz z1 z2 z3 z4 z5 htz _) (cwV 5 hts gP_law__x_X8_feed rfl rfl rfl (by decide +kernel) ⟨Nat.le_of_ble_eq_true rfl, Nat.le_of_ble_eq_true rfl⟩) (gx_preV (ci := 8) (q0 := 0) hK gN.nil (gq_Pl hP) (gq_Dl hD) [0, 1] rfl rfl rfl rfl) rfl rfl hl.1 rfl (lv_room (Nat.le_of_ble_eq_true rfl)) dL_law_158 ⟨(Nat.le_trans (Nat.add_le_add_right hkb.1 _) (Nat.le_of_ble_eq_true rfl)), (Nat.le_trans (Nat.add_le_add_right hkb.2 _) (Nat.le_of_ble_eq_true rfl))⟩) hP hD hS hA [0, 1] [2, 3, 4, 5, 6, 7, 8, 9, 10, 11, 12, 13, 14, 15, 16, 17, 18, 19, 20, 21, 22, 23, 24, 25, 26, 27, 28, 29, 30, 31, 32, 33, 34, 35, 36, 37, 38, 39, 40, 41] rfl rfl rfl (by decide) (fun r1 w1 H locs hp hP hD hS => ?_)
    obtain ⟨e_1, hp⟩ := hp
    obtain ⟨e_2, hp⟩ := hp
    obtain ⟨e_3, hp⟩ := hp
    obtain ⟨hq_4, hp⟩ := hp
    obtain ⟨h9, hp⟩ := hp
    subst hp
    have h9 := h9.symm
    subst h9
    have hq_4 : (3980 < tz ∧ e_2 = (-1) ∧ e_3 = tz ∧ e_1 = f) ∨ (tz ≤ 3980 ∧ e_2 = nI (tz + 20) ∧ e_3 = tz + 20 ∧ e_1 = rF5 f tz z1 z2 z3 z4 z5) := hq_4
    have hP : va_P D vwCl ([(r0, .inr (6, [.ref d0, .int pv, .int fv, .int lp, .ref k4, .ref k5, .ref k6, .ref k7, .int (nI t), .int tl, .int vr, .int vl])), (k4, .inl (cI, 501, .inl (fun j => nI (Kd j)))), (k5, .inl (cI, 501, .inl sf)), (k6, .inl (cI, 501, .inl nf)), (k7, .inl (cI, 6, .inl (fun j => nI (Tk j)))), (p0, .inr (4, [.int (nI nc), .ref b1, .ref b2, .ref b3])), (b1, .inl (cI, 3, .inl (fun j => nI (L j)))), (b2, .inl (cI, 4, .inl cf)), (b3, .inl (cI, 192, .inl pf)), (d0, .inr (4, [.int (nI ncd), .ref e1, .ref e2, .ref e3])), (e1, .inl (cI, 3, .inl (fun j => nI (Ld j)))), (e2, .inl (cI, 4, .inl cfd)), (e3, .inl (cI, 192, .inl pfd)), (m0, .inr (3, [.ref ms, .int vst, .int (nI vk), .int vm, .ref md])), (ms, .inr (7, [.ref mw])), (mw, .inl (cI, 34, .inl mf)), (md, .inl (cI, 38, .inl vd)), (oA, .inr (2, [.int knA, .int flA, .int (nI stA), .int (nI sA), .ref bA])), (bA, .inl (cI, rrA, .inl recA)), (oB, .inr (2, [.int knB, .int flB, .int (nI stB), .int (nI sB), .ref bB])), (bB, .inl (cI, rrB, .inl recB)), (ra, .inr (5, [.int rkn, .int ran, .int rr2, .int rr3, .int rr4, .int (nI rt), .ref a6])), (a6, .inl (cI, 38, .inl rpa)), (cu, .inr (0, [.ref f0, .int (nI lz), .int can, .ref a3l, .int cts, .ref a5t])), (a3l, .inl (cI, 2, .inl lk)), (a5t, .inl (cI, 2, .inl td)), (f0, .inr (4, [.int fc, .ref g1, .ref g2, .ref g3])), (g1, .inl (cI, 3, .inl (fun j => nI (FL j)))), (g2, .inl (cI, 4, .inl fcf)), (g3, .inl (cI, 192, .inl fpf)), (x0, .inr (1, [.int i0, .int i1, .ref a2, .ref a3, .ref s4, .ref s5, .int i6, .ref a7, .ref a8, .ref a9])), (s4, .inr (7, [.ref w4])), (w4, .inl (cI, 34, .inl f4)), (s5, .inr (7, [.ref w5])), (w5, .inl (cI, 34, .inl f5)), (a2, .inl (cI, 3000, .inl ef)), (a7, .inl (cI, rl, .inl rf)), (a8, .inl (cI, 4096, .inl sl)), (a9, .inl (cI, 3000, .inl cm)), (a3, .inl (cI, 38, .inl pp)), (h0, .inr (8, [.ref a, .int (nI e_3), .ref r0, .int fp, .int ld, .ref p0, .ref m0, .ref x0, .ref oA, .ref oB, .ref ra, .ref cu])), (a, .inl (cB, 4000, .inl e_1))] ++ w9) H := hP
    have hD : va_D A ([(r0, .inr (6, [.ref d0, .int pv, .int fv, .int lp, .ref k4, .ref k5, .ref k6, .ref k7, .int (nI t), .int tl, .int vr, .int vl])), (k4, .inl (cI, 501, .inl (fun j => nI (Kd j)))), (k5, .inl (cI, 501, .inl sf)), (k6, .inl (cI, 501, .inl nf)), (k7, .inl (cI, 6, .inl (fun j => nI (Tk j)))), (p0, .inr (4, [.int (nI nc), .ref b1, .ref b2, .ref b3])), (b1, .inl (cI, 3, .inl (fun j => nI (L j)))), (b2, .inl (cI, 4, .inl cf)), (b3, .inl (cI, 192, .inl pf)), (d0, .inr (4, [.int (nI ncd), .ref e1, .ref e2, .ref e3])), (e1, .inl (cI, 3, .inl (fun j => nI (Ld j)))), (e2, .inl (cI, 4, .inl cfd)), (e3, .inl (cI, 192, .inl pfd)), (m0, .inr (3, [.ref ms, .int vst, .int (nI vk), .int vm, .ref md])), (ms, .inr (7, [.ref mw])), (mw, .inl (cI, 34, .inl mf)), (md, .inl (cI, 38, .inl vd)), (oA, .inr (2, [.int knA, .int flA, .int (nI stA), .int (nI sA), .ref bA])), (bA, .inl (cI, rrA, .inl recA)), (oB, .inr (2, [.int knB, .int flB, .int (nI stB), .int (nI sB), .ref bB])), (bB, .inl (cI, rrB, .inl recB)), (ra, .inr (5, [.int rkn, .int ran, .int rr2, .int rr3, .int rr4, .int (nI rt), .ref a6])), (a6, .inl (cI, 38, .inl rpa)), (cu, .inr (0, [.ref f0, .int (nI lz), .int can, .ref a3l, .int cts, .ref a5t])), (a3l, .inl (cI, 2, .inl lk)), (a5t, .inl (cI, 2, .inl td)), (f0, .inr (4, [.int fc, .ref g1, .ref g2, .ref g3])), (g1, .inl (cI, 3, .inl (fun j => nI (FL j)))), (g2, .inl (cI, 4, .inl fcf)), (g3, .inl (cI, 192, .inl fpf)), (x0, .inr (1, [.int i0, .int i1, .ref a2, .ref a3, .ref s4, .ref s5, .int i6, .ref a7, .ref a8, .ref a9])), (s4, .inr (7, [.ref w4])), (w4, .inl (cI, 34, .inl f4)), (s5, .inr (7, [.ref w5])), (w5, .inl (cI, 34, .inl f5)), (a2, .inl (cI, 3000, .inl ef)), (a7, .inl (cI, rl, .inl rf)), (a8, .inl (cI, 4096, .inl sl)), (a9, .inl (cI, 3000, .inl cm)), (a3, .inl (cI, 38, .inl pp)), (h0, .inr (8, [.ref a, .int (nI e_3), .ref r0, .int fp, .int ld, .ref p0, .ref m0, .ref x0, .ref oA, .ref oB, .ref ra, .ref cu])), (a, .inl (cB, 4000, .inl e_1))] ++ w9) := hD
    refine W.widen (k := 63 + (rrA / 17) + (rrB / 17) + 10 + ((rl - 1600) / 4800)) (n := 584682 + (2 * rrA + 51000 * (rrA / 51000)) + (2 * rrB + 51000 * (rrB / 51000)) + 11814 + (2 * (rl - 1600))) (Nat.le_refl _) (Nat.le_refl _) ?_
    have hP := gq_subP (X' := [(h0, .inr (8, [.ref a, .int (nI e_3), .ref r0, .int fp, .int ld, .ref p0, .ref m0, .ref x0, .ref oA, .ref oB, .ref ra, .ref cu])), (a, .inl (cB, 4000, .inl e_1)), (r0, .inr (6, [.ref d0, .int pv, .int fv, .int lp, .ref k4, .ref k5, .ref k6, .ref k7, .int (nI t), .int tl, .int vr, .int vl])), (k4, .inl (cI, 501, .inl (fun j => nI (Kd j)))), (k5, .inl (cI, 501, .inl sf)), (k6, .inl (cI, 501, .inl nf)), (k7, .inl (cI, 6, .inl (fun j => nI (Tk j)))), (p0, .inr (4, [.int (nI nc), .ref b1, .ref b2, .ref b3])), (b1, .inl (cI, 3, .inl (fun j => nI (L j)))), (b2, .inl (cI, 4, .inl cf)), (b3, .inl (cI, 192, .inl pf)), (d0, .inr (4, [.int (nI ncd), .ref e1, .ref e2, .ref e3])), (e1, .inl (cI, 3, .inl (fun j => nI (Ld j)))), (e2, .inl (cI, 4, .inl cfd)), (e3, .inl (cI, 192, .inl pfd)), (m0, .inr (3, [.ref ms, .int vst, .int (nI vk), .int vm, .ref md])), (ms, .inr (7, [.ref mw])), (mw, .inl (cI, 34, .inl mf)), (md, .inl (cI, 38, .inl vd)), (oA, .inr (2, [.int knA, .int flA, .int (nI stA), .int (nI sA), .ref bA])), (bA, .inl (cI, rrA, .inl recA)), (oB, .inr (2, [.int knB, .int flB, .int (nI stB), .int (nI sB), .ref bB])), (bB, .inl (cI, rrB, .inl recB)), (ra, .inr (5, [.int rkn, .int ran, .int rr2, .int rr3, .int rr4, .int (nI rt), .ref a6])), (a6, .inl (cI, 38, .inl rpa)), (cu, .inr (0, [.ref f0, .int (nI lz), .int can, .ref a3l, .int cts, .ref a5t])), (a3l, .inl (cI, 2, .inl lk)), (a5t, .inl (cI, 2, .inl td)), (f0, .inr (4, [.int fc, .ref g1, .ref g2, .ref g3])), (g1, .inl (cI, 3, .inl (fun j => nI (FL j)))), (g2, .inl (cI, 4, .inl fcf)), (g3, .inl (cI, 192, .inl fpf)), (x0, .inr (1, [.int i0, .int i1, .ref a2, .ref a3, .ref s4, .ref s5, .int i6, .ref a7, .ref a8, .ref a9])), (s4, .inr (7, [.ref w4])), (w4, .inl (cI, 34, .inl f4)), (s5, .inr (7, [.ref w5])), (w5, .inl (cI, 34, .inl f5)), (a2, .inl (cI, 3000, .inl ef)), (a7, .inl (cI, rl, .inl rf)), (a8, .inl (cI, 4096, .inl sl)), (a9, .inl (cI, 3000, .inl cm)), (a3, .inl (cI, 38, .inl pp))]) hP [40, 41, 0, 1, 2, 3, 4, 5, 6, 7, 8, 9, 10, 11, 12, 13, 14, 15, 16, 17, 18, 19, 20, 21, 22, 23, 24, 25, 26, 27, 28, 29, 30, 31, 32, 33, 34, 35, 36, 37, 38, 39] rfl
    have hD := gq_subD (X' := [(h0, .inr (8, [.ref a, .int (nI e_3), .ref r0, .int fp, .int ld, .ref p0, .ref m0, .ref x0, .ref oA, .ref oB, .ref ra, .ref cu])), (a, .inl (cB, 4000, .inl e_1)), (r0, .inr (6, [.ref d0, .int pv, .int fv, .int lp, .ref k4, .ref k5, .ref k6, .ref k7, .int (nI t), .int tl, .int vr, .int vl])), (k4, .inl (cI, 501, .inl (fun j => nI (Kd j)))), (k5, .inl (cI, 501, .inl sf)), (k6, .inl (cI, 501, .inl nf)), (k7, .inl (cI, 6, .inl (fun j => nI (Tk j)))), (p0, .inr (4, [.int (nI nc), .ref b1, .ref b2, .ref b3])), (b1, .inl (cI, 3, .inl (fun j => nI (L j)))), (b2, .inl (cI, 4, .inl cf)), (b3, .inl (cI, 192, .inl pf)), (d0, .inr (4, [.int (nI ncd), .ref e1, .ref e2, .ref e3])), (e1, .inl (cI, 3, .inl (fun j => nI (Ld j)))), (e2, .inl (cI, 4, .inl cfd)), (e3, .inl (cI, 192, .inl pfd)), (m0, .inr (3, [.ref ms, .int vst, .int (nI vk), .int vm, .ref md])), (ms, .inr (7, [.ref mw])), (mw, .inl (cI, 34, .inl mf)), (md, .inl (cI, 38, .inl vd)), (oA, .inr (2, [.int knA, .int flA, .int (nI stA), .int (nI sA), .ref bA])), (bA, .inl (cI, rrA, .inl recA)), (oB, .inr (2, [.int knB, .int flB, .int (nI stB), .int (nI sB), .ref bB])), (bB, .inl (cI, rrB, .inl recB)), (ra, .inr (5, [.int rkn, .int ran, .int rr2, .int rr3, .int rr4, .int (nI rt), .ref a6])), (a6, .inl (cI, 38, .inl rpa)), (cu, .inr (0, [.ref f0, .int (nI lz), .int can, .ref a3l, .int cts, .ref a5t])), (a3l, .inl (cI, 2, .inl lk)), (a5t, .inl (cI, 2, .inl td)), (f0, .inr (4, [.int fc, .ref g1, .ref g2, .ref g3])), (g1, .inl (cI, 3, .inl (fun j => nI (FL j)))), (g2, .inl (cI, 4, .inl fcf)), (g3, .inl (cI, 192, .inl fpf)), (x0, .inr (1, [.int i0, .int i1, .ref a2, .ref a3, .ref s4, .ref s5, .int i6, .ref a7, .ref a8, .ref a9])), (s4, .inr (7, [.ref w4])), (w4, .inl (cI, 34, .inl f4)), (s5, .inr (7, [.ref w5])), (w5, .inl (cI, 34, .inl f5)), (a2, .inl (cI, 3000, .inl ef)), (a7, .inl (cI, rl, .inl rf)), (a8, .inl (cI, 4096, .inl sl)), (a9, .inl (cI, 3000, .inl cm)), (a3, .inl (cI, 38, .inl pp))]) hD [40, 41, 0, 1, 2, 3, 4, 5, 6, 7, 8, 9, 10, 11, 12, 13, 14, 15, 16, 17, 18, 19, 20, 21, 22, 23, 24, 25, 26, 27, 28, 29, 30, 31, 32, 33, 34, 35, 36, 37, 38, 39] (by decide) rfl
    exact kk e_2 _ e_3 e_1 fp ld nc L cf pf vst vk vm vd _ _ H locs (Or.inr (HallE_mk cI cB cZ h0 e_3 e_1 fp ld nc L cf pf vst vk vm vd a r0 k4 k5 k6 k7 p0 b1 b2 b3 d0 e1 e2 e3 m0 ms mw md oA oB ra a6 cu f0 g1 g2 g3 a3l a5t pv fv lp t tl vr vl Kd sf nf Tk ncd Ld cfd pfd mf knA flA stA sA bA rrA recA knB flB stB sB bB rrB recB rkn ran rr2 rr3 rr4 rt rpa lz can cts td lk fc FL fcf fpf x0 a2 s4 w4 s5 w5 a8 a9 a3 i0 i1 i6 a7 rl rf f4 f5 ef sl cm pp (gFd_le hq_4 htz) hR hTk hgo hmk hM hsA hrA hmA hsB hrB hmB hrt hlz hrl hrm)) ⟨hq_4, rfl, rfl, rfl, rfl, rfl, rfl, rfl, rfl, rfl, rfl⟩ hP hD hS
set_option maxHeartbeats 4000000 in
set_option maxRecDepth 100000 in
theorem hl_back {p : Program} {l : Launch} {e : Env} {s : State} {m : MethodId} {below : List Frame} {meth : Method} {c : Code} {b : Nat} {A : Nat → Prop} {Q : State → Prop} {D : va_G} {cI cB cZ : ClassId} {K : gKS} (G : gL p s m c b A D cI cB cZ K) {H : Heap} {locs : List Loc} {ls : Array Slot} {w8 w9 : va_W} {h0 tz kc ns : Nat} {f : Nat → Int32} {fp ld : Int32} {nc : Nat} {L : Nat → Nat} {cf : Nat → Int32} {pf : Nat → Int32} {vst : Int32} {vk : Nat} {vm : Int32} {vd : Nat → Int32} (hH : HallI cI cB cZ h0 w8 tz f fp ld nc L cf pf vst vk vm vd kc ns) (hP : va_P D vwCl (w8 ++ w9) H) (hD : va_D A (w8 ++ w9)) (hS : va_S A s.heap H locs) (hl : ls.size = 4 ∧ True) (z1 : Int32) (kk : ∀ (r : Int32) (w8' : va_W) (tz9 : Nat) (f9 : Nat → Int32) (fp9 ld9 : Int32) (nc9 : Nat) (L9 : Nat → Nat) (cf9 : Nat → Int32) (pf9 : Nat → Int32) (vst9 : Int32) (vk9 : Nat) (vm9 : Int32) (vd9 : Nat → Int32) (kc9 ns9 : Nat) (H1 : Heap) (locs1 : List Loc), HallI cI cB cZ h0 w8' tz9 f9 fp9 ld9 nc9 L9 cf9 pf9 vst9 vk9 vm9 vd9 kc9 ns9 → (((r = (-1) ∧ tz9 = tz ∧ (z1 < 0 ∨ ¬ z1 ≤ nI tz)) ∨ (∃ j, j ≤ tz ∧ z1 = nI j ∧ r = nI (tz - j) ∧ tz9 = tz - j)) ∧ f = f9 ∧ fp = fp9 ∧ ld = ld9 ∧ nc = nc9 ∧ L = L9 ∧ cf = cf9 ∧ pf = pf9 ∧ vst = vst9 ∧ vk = vk9 ∧ vm = vm9 ∧ vd = vd9) → va_P D vwCl (w8' ++ w9) H1 → va_D A (w8' ++ w9) → va_S A s.heap H1 locs1 → W p l e room_1 s m #[Value.ref b] below meth c H1 locs1 kc9 ns9 Q (F0 m 204 ls [.int r])) : W p l e room_1 s m #[Value.ref b] below meth c H locs kc ns Q (F0 m 201 ls [.int z1, .ref h0]) := by
  obtain ⟨hx, hb, hml, hown, hts, hA, hK, hN, hE⟩ := G
  rcases hH with hH | hH
  · unfold HallN at hH
    obtain ⟨a, hH⟩ := hH
    obtain ⟨r0, hH⟩ := hH
    obtain ⟨k4, hH⟩ := hH
    obtain ⟨k5, hH⟩ := hH
    obtain ⟨k6, hH⟩ := hH
    obtain ⟨k7, hH⟩ := hH
    obtain ⟨p0, hH⟩ := hH
    obtain ⟨b1, hH⟩ := hH
    obtain ⟨b2, hH⟩ := hH
    obtain ⟨b3, hH⟩ := hH
    obtain ⟨d0, hH⟩ := hH
    obtain ⟨e1, hH⟩ := hH
    obtain ⟨e2, hH⟩ := hH
    obtain ⟨e3, hH⟩ := hH
    obtain ⟨m0, hH⟩ := hH
    obtain ⟨ms, hH⟩ := hH
    obtain ⟨mw, hH⟩ := hH
    obtain ⟨md, hH⟩ := hH
    obtain ⟨oA, hH⟩ := hH
    obtain ⟨oB, hH⟩ := hH
    obtain ⟨ra, hH⟩ := hH
    obtain ⟨a6, hH⟩ := hH
    obtain ⟨cu, hH⟩ := hH
    obtain ⟨f0, hH⟩ := hH
    obtain ⟨g1, hH⟩ := hH
    obtain ⟨g2, hH⟩ := hH
    obtain ⟨g3, hH⟩ := hH
    obtain ⟨a3l, hH⟩ := hH
    obtain ⟨a5t, hH⟩ := hH
    obtain ⟨pv, hH⟩ := hH
    obtain ⟨fv, hH⟩ := hH
    obtain ⟨lp, hH⟩ := hH
    obtain ⟨t, hH⟩ := hH
    obtain ⟨tl, hH⟩ := hH
    obtain ⟨vr, hH⟩ := hH
    obtain ⟨vl, hH⟩ := hH
    obtain ⟨Kd, hH⟩ := hH
    obtain ⟨sf, hH⟩ := hH
    obtain ⟨nf, hH⟩ := hH
    obtain ⟨Tk, hH⟩ := hH
    obtain ⟨ncd, hH⟩ := hH
    obtain ⟨Ld, hH⟩ := hH
    obtain ⟨cfd, hH⟩ := hH
    obtain ⟨pfd, hH⟩ := hH
    obtain ⟨mf, hH⟩ := hH
    obtain ⟨flA, hH⟩ := hH
    obtain ⟨stA, hH⟩ := hH
    obtain ⟨sA, hH⟩ := hH
    obtain ⟨bA, hH⟩ := hH
    obtain ⟨rrA, hH⟩ := hH
    obtain ⟨recA, hH⟩ := hH
    obtain ⟨flB, hH⟩ := hH
    obtain ⟨stB, hH⟩ := hH
    obtain ⟨sB, hH⟩ := hH
    obtain ⟨bB, hH⟩ := hH
    obtain ⟨rrB, hH⟩ := hH
    obtain ⟨recB, hH⟩ := hH
    obtain ⟨ran, hH⟩ := hH
    obtain ⟨rr2, hH⟩ := hH
    obtain ⟨rr3, hH⟩ := hH
    obtain ⟨rr4, hH⟩ := hH
    obtain ⟨rt, hH⟩ := hH
    obtain ⟨rpa, hH⟩ := hH
    obtain ⟨lz, hH⟩ := hH
    obtain ⟨can, hH⟩ := hH
    obtain ⟨cts, hH⟩ := hH
    obtain ⟨td, hH⟩ := hH
    obtain ⟨lk, hH⟩ := hH
    obtain ⟨fc, hH⟩ := hH
    obtain ⟨FL, hH⟩ := hH
    obtain ⟨fcf, hH⟩ := hH
    obtain ⟨fpf, hH⟩ := hH
    obtain ⟨htz, hH⟩ := hH
    obtain ⟨hR, hH⟩ := hH
    obtain ⟨hTk, hH⟩ := hH
    obtain ⟨hgo, hH⟩ := hH
    obtain ⟨hmk, hH⟩ := hH
    obtain ⟨hM, hH⟩ := hH
    obtain ⟨hsA, hH⟩ := hH
    obtain ⟨hrA, hH⟩ := hH
    obtain ⟨hmA, hH⟩ := hH
    obtain ⟨hsB, hH⟩ := hH
    obtain ⟨hrB, hH⟩ := hH
    obtain ⟨hmB, hH⟩ := hH
    obtain ⟨hrt, hH⟩ := hH
    obtain ⟨hlz, hH⟩ := hH
    obtain ⟨rfl, rfl, rfl⟩ := hH
    obtain ⟨hc, hL6, hI5⟩ := id hgo
    have hL := gL6_8 hL6
    have hI := gG_up (b' := 7) hI5 (by decide)
    have hkb := gq_kN hmA hmB
    refine gq_goi (wc := [(h0, .inr (8, [.ref a, .int (nI tz), .ref r0, .int fp, .int ld, .ref p0, .ref m0, .null, .ref oA, .ref oB, .ref ra, .ref cu]))]) (wr := [(a, .inl (cB, 4000, .inl f)), (r0, .inr (6, [.ref d0, .int pv, .int fv, .int lp, .ref k4, .ref k5, .ref k6, .ref k7, .int (nI t), .int tl, .int vr, .int vl])), (k4, .inl (cI, 501, .inl (fun j => nI (Kd j)))), (k5, .inl (cI, 501, .inl sf)), (k6, .inl (cI, 501, .inl nf)), (k7, .inl (cI, 6, .inl (fun j => nI (Tk j)))), (p0, .inr (4, [.int (nI nc), .ref b1, .ref b2, .ref b3])), (b1, .inl (cI, 3, .inl (fun j => nI (L j)))), (b2, .inl (cI, 4, .inl cf)), (b3, .inl (cI, 192, .inl pf)), (d0, .inr (4, [.int (nI ncd), .ref e1, .ref e2, .ref e3])), (e1, .inl (cI, 3, .inl (fun j => nI (Ld j)))), (e2, .inl (cI, 4, .inl cfd)), (e3, .inl (cI, 192, .inl pfd)), (m0, .inr (3, [.ref ms, .int vst, .int (nI vk), .int vm, .ref md])), (ms, .inr (7, [.ref mw])), (mw, .inl (cI, 34, .inl mf)), (md, .inl (cI, 38, .inl vd)), (oA, .inr (2, [.int 0, .int flA, .int (nI stA), .int (nI sA), .ref bA])), (bA, .inl (cI, rrA, .inl recA)), (oB, .inr (2, [.int 0, .int flB, .int (nI stB), .int (nI sB), .ref bB])), (bB, .inl (cI, rrB, .inl recB)), (ra, .inr (5, [.int 0, .int ran, .int rr2, .int rr3, .int rr4, .int (nI rt), .ref a6])), (a6, .inl (cI, 38, .inl rpa)), (cu, .inr (0, [.ref f0, .int (nI lz), .int can, .ref a3l, .int cts, .ref a5t])), (a3l, .inl (cI, 2, .inl lk)), (a5t, .inl (cI, 2, .inl td)), (f0, .inr (4, [.int fc, .ref g1, .ref g2, .ref g3])), (g1, .inl (cI, 3, .inl (fun j => nI (FL j)))), (g2, .inl (cI, 4, .inl fcf)), (g3, .inl (cI, 192, .inl fpf))]) (va_runV (As := [.int z1]) (rest := []) ⟨hx, hb, hml, hown, hts⟩ (c_X8_back l D cI cB cZ h0 (.ref a) (.ref r0) (.int fp) (.int ld) (.ref p0) (.ref m0) (.null) (.ref oA) (.ref oB) (.ref ra) (.ref cu) tz z1 htz _) (cwV 1 hts gP_law__c_X8_back rfl rfl rfl (by decide +kernel) ⟨Nat.le_of_ble_eq_true rfl, Nat.le_of_ble_eq_true rfl⟩) (gx_preV (ci := 8) (q0 := 0) hK gN.nil (gq_Pl hP) (gq_Dl hD) [0] rfl rfl rfl rfl) rfl rfl hl.1 rfl (lv_room (Nat.le_of_ble_eq_true rfl)) dL_law_201 ⟨(Nat.le_trans (Nat.add_le_add_right hkb.1 _) (Nat.le_of_ble_eq_true rfl)), (Nat.le_trans (Nat.add_le_add_right hkb.2 _) (Nat.le_of_ble_eq_true rfl))⟩) hP hD hS hA [0] [1, 2, 3, 4, 5, 6, 7, 8, 9, 10, 11, 12, 13, 14, 15, 16, 17, 18, 19, 20, 21, 22, 23, 24, 25, 26, 27, 28, 29, 30, 31] rfl rfl rfl (by decide) (fun r1 w1 H locs hp hP hD hS => ?_)
    obtain ⟨e_1, hp⟩ := hp
    obtain ⟨e_2, hp⟩ := hp
    obtain ⟨hq_3, hp⟩ := hp
    obtain ⟨h9, hp⟩ := hp
    subst hp
    have h9 := h9.symm
    subst h9
    have hq_3 : (e_1 = (-1) ∧ e_2 = tz ∧ (z1 < 0 ∨ ¬ z1 ≤ nI tz)) ∨ (∃ j, j ≤ tz ∧ z1 = nI j ∧ e_1 = nI (tz - j) ∧ e_2 = tz - j) := hq_3
    have hP : va_P D vwCl ([(a, .inl (cB, 4000, .inl f)), (r0, .inr (6, [.ref d0, .int pv, .int fv, .int lp, .ref k4, .ref k5, .ref k6, .ref k7, .int (nI t), .int tl, .int vr, .int vl])), (k4, .inl (cI, 501, .inl (fun j => nI (Kd j)))), (k5, .inl (cI, 501, .inl sf)), (k6, .inl (cI, 501, .inl nf)), (k7, .inl (cI, 6, .inl (fun j => nI (Tk j)))), (p0, .inr (4, [.int (nI nc), .ref b1, .ref b2, .ref b3])), (b1, .inl (cI, 3, .inl (fun j => nI (L j)))), (b2, .inl (cI, 4, .inl cf)), (b3, .inl (cI, 192, .inl pf)), (d0, .inr (4, [.int (nI ncd), .ref e1, .ref e2, .ref e3])), (e1, .inl (cI, 3, .inl (fun j => nI (Ld j)))), (e2, .inl (cI, 4, .inl cfd)), (e3, .inl (cI, 192, .inl pfd)), (m0, .inr (3, [.ref ms, .int vst, .int (nI vk), .int vm, .ref md])), (ms, .inr (7, [.ref mw])), (mw, .inl (cI, 34, .inl mf)), (md, .inl (cI, 38, .inl vd)), (oA, .inr (2, [.int 0, .int flA, .int (nI stA), .int (nI sA), .ref bA])), (bA, .inl (cI, rrA, .inl recA)), (oB, .inr (2, [.int 0, .int flB, .int (nI stB), .int (nI sB), .ref bB])), (bB, .inl (cI, rrB, .inl recB)), (ra, .inr (5, [.int 0, .int ran, .int rr2, .int rr3, .int rr4, .int (nI rt), .ref a6])), (a6, .inl (cI, 38, .inl rpa)), (cu, .inr (0, [.ref f0, .int (nI lz), .int can, .ref a3l, .int cts, .ref a5t])), (a3l, .inl (cI, 2, .inl lk)), (a5t, .inl (cI, 2, .inl td)), (f0, .inr (4, [.int fc, .ref g1, .ref g2, .ref g3])), (g1, .inl (cI, 3, .inl (fun j => nI (FL j)))), (g2, .inl (cI, 4, .inl fcf)), (g3, .inl (cI, 192, .inl fpf)), (h0, .inr (8, [.ref a, .int (nI e_2), .ref r0, .int fp, .int ld, .ref p0, .ref m0, .null, .ref oA, .ref oB, .ref ra, .ref cu]))] ++ w9) H := hP
    have hD : va_D A ([(a, .inl (cB, 4000, .inl f)), (r0, .inr (6, [.ref d0, .int pv, .int fv, .int lp, .ref k4, .ref k5, .ref k6, .ref k7, .int (nI t), .int tl, .int vr, .int vl])), (k4, .inl (cI, 501, .inl (fun j => nI (Kd j)))), (k5, .inl (cI, 501, .inl sf)), (k6, .inl (cI, 501, .inl nf)), (k7, .inl (cI, 6, .inl (fun j => nI (Tk j)))), (p0, .inr (4, [.int (nI nc), .ref b1, .ref b2, .ref b3])), (b1, .inl (cI, 3, .inl (fun j => nI (L j)))), (b2, .inl (cI, 4, .inl cf)), (b3, .inl (cI, 192, .inl pf)), (d0, .inr (4, [.int (nI ncd), .ref e1, .ref e2, .ref e3])), (e1, .inl (cI, 3, .inl (fun j => nI (Ld j)))), (e2, .inl (cI, 4, .inl cfd)), (e3, .inl (cI, 192, .inl pfd)), (m0, .inr (3, [.ref ms, .int vst, .int (nI vk), .int vm, .ref md])), (ms, .inr (7, [.ref mw])), (mw, .inl (cI, 34, .inl mf)), (md, .inl (cI, 38, .inl vd)), (oA, .inr (2, [.int 0, .int flA, .int (nI stA), .int (nI sA), .ref bA])), (bA, .inl (cI, rrA, .inl recA)), (oB, .inr (2, [.int 0, .int flB, .int (nI stB), .int (nI sB), .ref bB])), (bB, .inl (cI, rrB, .inl recB)), (ra, .inr (5, [.int 0, .int ran, .int rr2, .int rr3, .int rr4, .int (nI rt), .ref a6])), (a6, .inl (cI, 38, .inl rpa)), (cu, .inr (0, [.ref f0, .int (nI lz), .int can, .ref a3l, .int cts, .ref a5t])), (a3l, .inl (cI, 2, .inl lk)), (a5t, .inl (cI, 2, .inl td)), (f0, .inr (4, [.int fc, .ref g1, .ref g2, .ref g3])), (g1, .inl (cI, 3, .inl (fun j => nI (FL j)))), (g2, .inl (cI, 4, .inl fcf)), (g3, .inl (cI, 192, .inl fpf)), (h0, .inr (8, [.ref a, .int (nI e_2), .ref r0, .int fp, .int ld, .ref p0, .ref m0, .null, .ref oA, .ref oB, .ref ra, .ref cu]))] ++ w9) := hD
    refine W.widen (k := 63 + (rrA / 17) + (rrB / 17)) (n := 584682 + (2 * rrA + 51000 * (rrA / 51000)) + (2 * rrB + 51000 * (rrB / 51000))) (Nat.le_refl _) (Nat.le_refl _) ?_
    have hP := gq_subP (X' := [(h0, .inr (8, [.ref a, .int (nI e_2), .ref r0, .int fp, .int ld, .ref p0, .ref m0, .null, .ref oA, .ref oB, .ref ra, .ref cu])), (a, .inl (cB, 4000, .inl f)), (r0, .inr (6, [.ref d0, .int pv, .int fv, .int lp, .ref k4, .ref k5, .ref k6, .ref k7, .int (nI t), .int tl, .int vr, .int vl])), (k4, .inl (cI, 501, .inl (fun j => nI (Kd j)))), (k5, .inl (cI, 501, .inl sf)), (k6, .inl (cI, 501, .inl nf)), (k7, .inl (cI, 6, .inl (fun j => nI (Tk j)))), (p0, .inr (4, [.int (nI nc), .ref b1, .ref b2, .ref b3])), (b1, .inl (cI, 3, .inl (fun j => nI (L j)))), (b2, .inl (cI, 4, .inl cf)), (b3, .inl (cI, 192, .inl pf)), (d0, .inr (4, [.int (nI ncd), .ref e1, .ref e2, .ref e3])), (e1, .inl (cI, 3, .inl (fun j => nI (Ld j)))), (e2, .inl (cI, 4, .inl cfd)), (e3, .inl (cI, 192, .inl pfd)), (m0, .inr (3, [.ref ms, .int vst, .int (nI vk), .int vm, .ref md])), (ms, .inr (7, [.ref mw])), (mw, .inl (cI, 34, .inl mf)), (md, .inl (cI, 38, .inl vd)), (oA, .inr (2, [.int 0, .int flA, .int (nI stA), .int (nI sA), .ref bA])), (bA, .inl (cI, rrA, .inl recA)), (oB, .inr (2, [.int 0, .int flB, .int (nI stB), .int (nI sB), .ref bB])), (bB, .inl (cI, rrB, .inl recB)), (ra, .inr (5, [.int 0, .int ran, .int rr2, .int rr3, .int rr4, .int (nI rt), .ref a6])), (a6, .inl (cI, 38, .inl rpa)), (cu, .inr (0, [.ref f0, .int (nI lz), .int can, .ref a3l, .int cts, .ref a5t])), (a3l, .inl (cI, 2, .inl lk)), (a5t, .inl (cI, 2, .inl td)), (f0, .inr (4, [.int fc, .ref g1, .ref g2, .ref g3])), (g1, .inl (cI, 3, .inl (fun j => nI (FL j)))), (g2, .inl (cI, 4, .inl fcf)), (g3, .inl (cI, 192, .inl fpf))]) hP [31, 0, 1, 2, 3, 4, 5, 6, 7, 8, 9, 10, 11, 12, 13, 14, 15, 16, 17, 18, 19, 20, 21, 22, 23, 24, 25, 26, 27, 28, 29, 30] rfl
    have hD := gq_subD (X' := [(h0, .inr (8, [.ref a, .int (nI e_2), .ref r0, .int fp, .int ld, .ref p0, .ref m0, .null, .ref oA, .ref oB, .ref ra, .ref cu])), (a, .inl (cB, 4000, .inl f)), (r0, .inr (6, [.ref d0, .int pv, .int fv, .int lp, .ref k4, .ref k5, .ref k6, .ref k7, .int (nI t), .int tl, .int vr, .int vl])), (k4, .inl (cI, 501, .inl (fun j => nI (Kd j)))), (k5, .inl (cI, 501, .inl sf)), (k6, .inl (cI, 501, .inl nf)), (k7, .inl (cI, 6, .inl (fun j => nI (Tk j)))), (p0, .inr (4, [.int (nI nc), .ref b1, .ref b2, .ref b3])), (b1, .inl (cI, 3, .inl (fun j => nI (L j)))), (b2, .inl (cI, 4, .inl cf)), (b3, .inl (cI, 192, .inl pf)), (d0, .inr (4, [.int (nI ncd), .ref e1, .ref e2, .ref e3])), (e1, .inl (cI, 3, .inl (fun j => nI (Ld j)))), (e2, .inl (cI, 4, .inl cfd)), (e3, .inl (cI, 192, .inl pfd)), (m0, .inr (3, [.ref ms, .int vst, .int (nI vk), .int vm, .ref md])), (ms, .inr (7, [.ref mw])), (mw, .inl (cI, 34, .inl mf)), (md, .inl (cI, 38, .inl vd)), (oA, .inr (2, [.int 0, .int flA, .int (nI stA), .int (nI sA), .ref bA])), (bA, .inl (cI, rrA, .inl recA)), (oB, .inr (2, [.int 0, .int flB, .int (nI stB), .int (nI sB), .ref bB])), (bB, .inl (cI, rrB, .inl recB)), (ra, .inr (5, [.int 0, .int ran, .int rr2, .int rr3, .int rr4, .int (nI rt), .ref a6])), (a6, .inl (cI, 38, .inl rpa)), (cu, .inr (0, [.ref f0, .int (nI lz), .int can, .ref a3l, .int cts, .ref a5t])), (a3l, .inl (cI, 2, .inl lk)), (a5t, .inl (cI, 2, .inl td)), (f0, .inr (4, [.int fc, .ref g1, .ref g2, .ref g3])), (g1, .inl (cI, 3, .inl (fun j => nI (FL j)))), (g2, .inl (cI, 4, .inl fcf)), (g3, .inl (cI, 192, .inl fpf))]) hD [31, 0, 1, 2, 3, 4, 5, 6, 7, 8, 9, 10, 11, 12, 13, 14, 15, 16, 17, 18, 19, 20, 21, 22, 23, 24, 25, 26, 27, 28, 29, 30] (by decide) rfl
    exact kk e_1 _ e_2 f fp ld nc L cf pf vst vk vm vd _ _ H locs (Or.inl (HallN_mk cI cB cZ h0 e_2 f fp ld nc L cf pf vst vk vm vd a r0 k4 k5 k6 k7 p0 b1 b2 b3 d0 e1 e2 e3 m0 ms mw md oA oB ra a6 cu f0 g1 g2 g3 a3l a5t pv fv lp t tl vr vl Kd sf nf Tk ncd Ld cfd pfd mf flA stA sA bA rrA recA flB stB sB bB rrB recB ran rr2 rr3 rr4 rt rpa lz can cts td lk fc FL fcf fpf (gBk_le htz hq_3) hR hTk hgo hmk hM hsA hrA hmA hsB hrB hmB hrt hlz)) ⟨hq_3, rfl, rfl, rfl, rfl, rfl, rfl, rfl, rfl, rfl, rfl, rfl⟩ hP hD hS
  · unfold HallE at hH
    obtain ⟨a, hH⟩ := hH
    obtain ⟨r0, hH⟩ := hH
    obtain ⟨k4, hH⟩ := hH
    obtain ⟨k5, hH⟩ := hH
    obtain ⟨k6, hH⟩ := hH
    obtain ⟨k7, hH⟩ := hH
    obtain ⟨p0, hH⟩ := hH
    obtain ⟨b1, hH⟩ := hH
    obtain ⟨b2, hH⟩ := hH
    obtain ⟨b3, hH⟩ := hH
    obtain ⟨d0, hH⟩ := hH
    obtain ⟨e1, hH⟩ := hH
    obtain ⟨e2, hH⟩ := hH
    obtain ⟨e3, hH⟩ := hH
    obtain ⟨m0, hH⟩ := hH
    obtain ⟨ms, hH⟩ := hH
    obtain ⟨mw, hH⟩ := hH
    obtain ⟨md, hH⟩ := hH
    obtain ⟨oA, hH⟩ := hH
    obtain ⟨oB, hH⟩ := hH
    obtain ⟨ra, hH⟩ := hH
    obtain ⟨a6, hH⟩ := hH
    obtain ⟨cu, hH⟩ := hH
    obtain ⟨f0, hH⟩ := hH
    obtain ⟨g1, hH⟩ := hH
    obtain ⟨g2, hH⟩ := hH
    obtain ⟨g3, hH⟩ := hH
    obtain ⟨a3l, hH⟩ := hH
    obtain ⟨a5t, hH⟩ := hH
    obtain ⟨pv, hH⟩ := hH
    obtain ⟨fv, hH⟩ := hH
    obtain ⟨lp, hH⟩ := hH
    obtain ⟨t, hH⟩ := hH
    obtain ⟨tl, hH⟩ := hH
    obtain ⟨vr, hH⟩ := hH
    obtain ⟨vl, hH⟩ := hH
    obtain ⟨Kd, hH⟩ := hH
    obtain ⟨sf, hH⟩ := hH
    obtain ⟨nf, hH⟩ := hH
    obtain ⟨Tk, hH⟩ := hH
    obtain ⟨ncd, hH⟩ := hH
    obtain ⟨Ld, hH⟩ := hH
    obtain ⟨cfd, hH⟩ := hH
    obtain ⟨pfd, hH⟩ := hH
    obtain ⟨mf, hH⟩ := hH
    obtain ⟨knA, hH⟩ := hH
    obtain ⟨flA, hH⟩ := hH
    obtain ⟨stA, hH⟩ := hH
    obtain ⟨sA, hH⟩ := hH
    obtain ⟨bA, hH⟩ := hH
    obtain ⟨rrA, hH⟩ := hH
    obtain ⟨recA, hH⟩ := hH
    obtain ⟨knB, hH⟩ := hH
    obtain ⟨flB, hH⟩ := hH
    obtain ⟨stB, hH⟩ := hH
    obtain ⟨sB, hH⟩ := hH
    obtain ⟨bB, hH⟩ := hH
    obtain ⟨rrB, hH⟩ := hH
    obtain ⟨recB, hH⟩ := hH
    obtain ⟨rkn, hH⟩ := hH
    obtain ⟨ran, hH⟩ := hH
    obtain ⟨rr2, hH⟩ := hH
    obtain ⟨rr3, hH⟩ := hH
    obtain ⟨rr4, hH⟩ := hH
    obtain ⟨rt, hH⟩ := hH
    obtain ⟨rpa, hH⟩ := hH
    obtain ⟨lz, hH⟩ := hH
    obtain ⟨can, hH⟩ := hH
    obtain ⟨cts, hH⟩ := hH
    obtain ⟨td, hH⟩ := hH
    obtain ⟨lk, hH⟩ := hH
    obtain ⟨fc, hH⟩ := hH
    obtain ⟨FL, hH⟩ := hH
    obtain ⟨fcf, hH⟩ := hH
    obtain ⟨fpf, hH⟩ := hH
    obtain ⟨x0, hH⟩ := hH
    obtain ⟨a2, hH⟩ := hH
    obtain ⟨s4, hH⟩ := hH
    obtain ⟨w4, hH⟩ := hH
    obtain ⟨s5, hH⟩ := hH
    obtain ⟨w5, hH⟩ := hH
    obtain ⟨a8, hH⟩ := hH
    obtain ⟨a9, hH⟩ := hH
    obtain ⟨a3, hH⟩ := hH
    obtain ⟨i0, hH⟩ := hH
    obtain ⟨i1, hH⟩ := hH
    obtain ⟨i6, hH⟩ := hH
    obtain ⟨a7, hH⟩ := hH
    obtain ⟨rl, hH⟩ := hH
    obtain ⟨rf, hH⟩ := hH
    obtain ⟨f4, hH⟩ := hH
    obtain ⟨f5, hH⟩ := hH
    obtain ⟨ef, hH⟩ := hH
    obtain ⟨sl, hH⟩ := hH
    obtain ⟨cm, hH⟩ := hH
    obtain ⟨pp, hH⟩ := hH
    obtain ⟨htz, hH⟩ := hH
    obtain ⟨hR, hH⟩ := hH
    obtain ⟨hTk, hH⟩ := hH
    obtain ⟨hgo, hH⟩ := hH
    obtain ⟨hmk, hH⟩ := hH
    obtain ⟨hM, hH⟩ := hH
    obtain ⟨hsA, hH⟩ := hH
    obtain ⟨hrA, hH⟩ := hH
    obtain ⟨hmA, hH⟩ := hH
    obtain ⟨hsB, hH⟩ := hH
    obtain ⟨hrB, hH⟩ := hH
    obtain ⟨hmB, hH⟩ := hH
    obtain ⟨hrt, hH⟩ := hH
    obtain ⟨hlz, hH⟩ := hH
    obtain ⟨hrl, hH⟩ := hH
    obtain ⟨hrm, hH⟩ := hH
    obtain ⟨rfl, rfl, rfl⟩ := hH
    obtain ⟨hc, hL6, hI5⟩ := id hgo
    have hL := gL6_8 hL6
    have hI := gG_up (b' := 7) hI5 (by decide)
    have hkb := gq_k hmA hmB hrm.2
    refine gq_goi (wc := [(h0, .inr (8, [.ref a, .int (nI tz), .ref r0, .int fp, .int ld, .ref p0, .ref m0, .ref x0, .ref oA, .ref oB, .ref ra, .ref cu]))]) (wr := [(a, .inl (cB, 4000, .inl f)), (r0, .inr (6, [.ref d0, .int pv, .int fv, .int lp, .ref k4, .ref k5, .ref k6, .ref k7, .int (nI t), .int tl, .int vr, .int vl])), (k4, .inl (cI, 501, .inl (fun j => nI (Kd j)))), (k5, .inl (cI, 501, .inl sf)), (k6, .inl (cI, 501, .inl nf)), (k7, .inl (cI, 6, .inl (fun j => nI (Tk j)))), (p0, .inr (4, [.int (nI nc), .ref b1, .ref b2, .ref b3])), (b1, .inl (cI, 3, .inl (fun j => nI (L j)))), (b2, .inl (cI, 4, .inl cf)), (b3, .inl (cI, 192, .inl pf)), (d0, .inr (4, [.int (nI ncd), .ref e1, .ref e2, .ref e3])), (e1, .inl (cI, 3, .inl (fun j => nI (Ld j)))), (e2, .inl (cI, 4, .inl cfd)), (e3, .inl (cI, 192, .inl pfd)), (m0, .inr (3, [.ref ms, .int vst, .int (nI vk), .int vm, .ref md])), (ms, .inr (7, [.ref mw])), (mw, .inl (cI, 34, .inl mf)), (md, .inl (cI, 38, .inl vd)), (oA, .inr (2, [.int knA, .int flA, .int (nI stA), .int (nI sA), .ref bA])), (bA, .inl (cI, rrA, .inl recA)), (oB, .inr (2, [.int knB, .int flB, .int (nI stB), .int (nI sB), .ref bB])), (bB, .inl (cI, rrB, .inl recB)), (ra, .inr (5, [.int rkn, .int ran, .int rr2, .int rr3, .int rr4, .int (nI rt), .ref a6])), (a6, .inl (cI, 38, .inl rpa)), (cu, .inr (0, [.ref f0, .int (nI lz), .int can, .ref a3l, .int cts, .ref a5t])), (a3l, .inl (cI, 2, .inl lk)), (a5t, .inl (cI, 2, .inl td)), (f0, .inr (4, [.int fc, .ref g1, .ref g2, .ref g3])), (g1, .inl (cI, 3, .inl (fun j => nI (FL j)))), (g2, .inl (cI, 4, .inl fcf)), (g3, .inl (cI, 192, .inl fpf)), (x0, .inr (1, [.int i0, .int i1, .ref a2, .ref a3, .ref s4, .ref s5, .int i6, .ref a7, .ref a8, .ref a9])), (s4, .inr (7, [.ref w4])), (w4, .inl (cI, 34, .inl f4)), (s5, .inr (7, [.ref w5])), (w5, .inl (cI, 34, .inl f5)), (a2, .inl (cI, 3000, .inl ef)), (a7, .inl (cI, rl, .inl rf)), (a8, .inl (cI, 4096, .inl sl)), (a9, .inl (cI, 3000, .inl cm)), (a3, .inl (cI, 38, .inl pp))]) (va_runV (As := [.int z1]) (rest := []) ⟨hx, hb, hml, hown, hts⟩ (c_X8_back l D cI cB cZ h0 (.ref a) (.ref r0) (.int fp) (.int ld) (.ref p0) (.ref m0) (.ref x0) (.ref oA) (.ref oB) (.ref ra) (.ref cu) tz z1 htz _) (cwV 1 hts gP_law__c_X8_back rfl rfl rfl (by decide +kernel) ⟨Nat.le_of_ble_eq_true rfl, Nat.le_of_ble_eq_true rfl⟩) (gx_preV (ci := 8) (q0 := 0) hK gN.nil (gq_Pl hP) (gq_Dl hD) [0] rfl rfl rfl rfl) rfl rfl hl.1 rfl (lv_room (Nat.le_of_ble_eq_true rfl)) dL_law_201 ⟨(Nat.le_trans (Nat.add_le_add_right hkb.1 _) (Nat.le_of_ble_eq_true rfl)), (Nat.le_trans (Nat.add_le_add_right hkb.2 _) (Nat.le_of_ble_eq_true rfl))⟩) hP hD hS hA [0] [1, 2, 3, 4, 5, 6, 7, 8, 9, 10, 11, 12, 13, 14, 15, 16, 17, 18, 19, 20, 21, 22, 23, 24, 25, 26, 27, 28, 29, 30, 31, 32, 33, 34, 35, 36, 37, 38, 39, 40, 41] rfl rfl rfl (by decide) (fun r1 w1 H locs hp hP hD hS => ?_)
    obtain ⟨e_1, hp⟩ := hp
    obtain ⟨e_2, hp⟩ := hp
    obtain ⟨hq_3, hp⟩ := hp
    obtain ⟨h9, hp⟩ := hp
    subst hp
    have h9 := h9.symm
    subst h9
    have hq_3 : (e_1 = (-1) ∧ e_2 = tz ∧ (z1 < 0 ∨ ¬ z1 ≤ nI tz)) ∨ (∃ j, j ≤ tz ∧ z1 = nI j ∧ e_1 = nI (tz - j) ∧ e_2 = tz - j) := hq_3
    have hP : va_P D vwCl ([(a, .inl (cB, 4000, .inl f)), (r0, .inr (6, [.ref d0, .int pv, .int fv, .int lp, .ref k4, .ref k5, .ref k6, .ref k7, .int (nI t), .int tl, .int vr, .int vl])), (k4, .inl (cI, 501, .inl (fun j => nI (Kd j)))), (k5, .inl (cI, 501, .inl sf)), (k6, .inl (cI, 501, .inl nf)), (k7, .inl (cI, 6, .inl (fun j => nI (Tk j)))), (p0, .inr (4, [.int (nI nc), .ref b1, .ref b2, .ref b3])), (b1, .inl (cI, 3, .inl (fun j => nI (L j)))), (b2, .inl (cI, 4, .inl cf)), (b3, .inl (cI, 192, .inl pf)), (d0, .inr (4, [.int (nI ncd), .ref e1, .ref e2, .ref e3])), (e1, .inl (cI, 3, .inl (fun j => nI (Ld j)))), (e2, .inl (cI, 4, .inl cfd)), (e3, .inl (cI, 192, .inl pfd)), (m0, .inr (3, [.ref ms, .int vst, .int (nI vk), .int vm, .ref md])), (ms, .inr (7, [.ref mw])), (mw, .inl (cI, 34, .inl mf)), (md, .inl (cI, 38, .inl vd)), (oA, .inr (2, [.int knA, .int flA, .int (nI stA), .int (nI sA), .ref bA])), (bA, .inl (cI, rrA, .inl recA)), (oB, .inr (2, [.int knB, .int flB, .int (nI stB), .int (nI sB), .ref bB])), (bB, .inl (cI, rrB, .inl recB)), (ra, .inr (5, [.int rkn, .int ran, .int rr2, .int rr3, .int rr4, .int (nI rt), .ref a6])), (a6, .inl (cI, 38, .inl rpa)), (cu, .inr (0, [.ref f0, .int (nI lz), .int can, .ref a3l, .int cts, .ref a5t])), (a3l, .inl (cI, 2, .inl lk)), (a5t, .inl (cI, 2, .inl td)), (f0, .inr (4, [.int fc, .ref g1, .ref g2, .ref g3])), (g1, .inl (cI, 3, .inl (fun j => nI (FL j)))), (g2, .inl (cI, 4, .inl fcf)), (g3, .inl (cI, 192, .inl fpf)), (x0, .inr (1, [.int i0, .int i1, .ref a2, .ref a3, .ref s4, .ref s5, .int i6, .ref a7, .ref a8, .ref a9])), (s4, .inr (7, [.ref w4])), (w4, .inl (cI, 34, .inl f4)), (s5, .inr (7, [.ref w5])), (w5, .inl (cI, 34, .inl f5)), (a2, .inl (cI, 3000, .inl ef)), (a7, .inl (cI, rl, .inl rf)), (a8, .inl (cI, 4096, .inl sl)), (a9, .inl (cI, 3000, .inl cm)), (a3, .inl (cI, 38, .inl pp)), (h0, .inr (8, [.ref a, .int (nI e_2), .ref r0, .int fp, .int ld, .ref p0, .ref m0, .ref x0, .ref oA, .ref oB, .ref ra, .ref cu]))] ++ w9) H := hP
    have hD : va_D A ([(a, .inl (cB, 4000, .inl f)), (r0, .inr (6, [.ref d0, .int pv, .int fv, .int lp, .ref k4, .ref k5, .ref k6, .ref k7, .int (nI t), .int tl, .int vr, .int vl])), (k4, .inl (cI, 501, .inl (fun j => nI (Kd j)))), (k5, .inl (cI, 501, .inl sf)), (k6, .inl (cI, 501, .inl nf)), (k7, .inl (cI, 6, .inl (fun j => nI (Tk j)))), (p0, .inr (4, [.int (nI nc), .ref b1, .ref b2, .ref b3])), (b1, .inl (cI, 3, .inl (fun j => nI (L j)))), (b2, .inl (cI, 4, .inl cf)), (b3, .inl (cI, 192, .inl pf)), (d0, .inr (4, [.int (nI ncd), .ref e1, .ref e2, .ref e3])), (e1, .inl (cI, 3, .inl (fun j => nI (Ld j)))), (e2, .inl (cI, 4, .inl cfd)), (e3, .inl (cI, 192, .inl pfd)), (m0, .inr (3, [.ref ms, .int vst, .int (nI vk), .int vm, .ref md])), (ms, .inr (7, [.ref mw])), (mw, .inl (cI, 34, .inl mf)), (md, .inl (cI, 38, .inl vd)), (oA, .inr (2, [.int knA, .int flA, .int (nI stA), .int (nI sA), .ref bA])), (bA, .inl (cI, rrA, .inl recA)), (oB, .inr (2, [.int knB, .int flB, .int (nI stB), .int (nI sB), .ref bB])), (bB, .inl (cI, rrB, .inl recB)), (ra, .inr (5, [.int rkn, .int ran, .int rr2, .int rr3, .int rr4, .int (nI rt), .ref a6])), (a6, .inl (cI, 38, .inl rpa)), (cu, .inr (0, [.ref f0, .int (nI lz), .int can, .ref a3l, .int cts, .ref a5t])), (a3l, .inl (cI, 2, .inl lk)), (a5t, .inl (cI, 2, .inl td)), (f0, .inr (4, [.int fc, .ref g1, .ref g2, .ref g3])), (g1, .inl (cI, 3, .inl (fun j => nI (FL j)))), (g2, .inl (cI, 4, .inl fcf)), (g3, .inl (cI, 192, .inl fpf)), (x0, .inr (1, [.int i0, .int i1, .ref a2, .ref a3, .ref s4, .ref s5, .int i6, .ref a7, .ref a8, .ref a9])), (s4, .inr (7, [.ref w4])), (w4, .inl (cI, 34, .inl f4)), (s5, .inr (7, [.ref w5])), (w5, .inl (cI, 34, .inl f5)), (a2, .inl (cI, 3000, .inl ef)), (a7, .inl (cI, rl, .inl rf)), (a8, .inl (cI, 4096, .inl sl)), (a9, .inl (cI, 3000, .inl cm)), (a3, .inl (cI, 38, .inl pp)), (h0, .inr (8, [.ref a, .int (nI e_2), .ref r0, .int fp, .int ld, .ref p0, .ref m0, .ref x0, .ref oA, .ref oB, .ref ra, .ref cu]))] ++ w9) := hD
    refine W.widen (k := 63 + (rrA / 17) + (rrB / 17) + 10 + ((rl - 1600) / 4800)) (n := 584682 + (2 * rrA + 51000 * (rrA / 51000)) + (2 * rrB + 51000 * (rrB / 51000)) + 11814 + (2 * (rl - 1600))) (Nat.le_refl _) (Nat.le_refl _) ?_
    have hP := gq_subP (X' := [(h0, .inr (8, [.ref a, .int (nI e_2), .ref r0, .int fp, .int ld, .ref p0, .ref m0, .ref x0, .ref oA, .ref oB, .ref ra, .ref cu])), (a, .inl (cB, 4000, .inl f)), (r0, .inr (6, [.ref d0, .int pv, .int fv, .int lp, .ref k4, .ref k5, .ref k6, .ref k7, .int (nI t), .int tl, .int vr, .int vl])), (k4, .inl (cI, 501, .inl (fun j => nI (Kd j)))), (k5, .inl (cI, 501, .inl sf)), (k6, .inl (cI, 501, .inl nf)), (k7, .inl (cI, 6, .inl (fun j => nI (Tk j)))), (p0, .inr (4, [.int (nI nc), .ref b1, .ref b2, .ref b3])), (b1, .inl (cI, 3, .inl (fun j => nI (L j)))), (b2, .inl (cI, 4, .inl cf)), (b3, .inl (cI, 192, .inl pf)), (d0, .inr (4, [.int (nI ncd), .ref e1, .ref e2, .ref e3])), (e1, .inl (cI, 3, .inl (fun j => nI (Ld j)))), (e2, .inl (cI, 4, .inl cfd)), (e3, .inl (cI, 192, .inl pfd)), (m0, .inr (3, [.ref ms, .int vst, .int (nI vk), .int vm, .ref md])), (ms, .inr (7, [.ref mw])), (mw, .inl (cI, 34, .inl mf)), (md, .inl (cI, 38, .inl vd)), (oA, .inr (2, [.int knA, .int flA, .int (nI stA), .int (nI sA), .ref bA])), (bA, .inl (cI, rrA, .inl recA)), (oB, .inr (2, [.int knB, .int flB, .int (nI stB), .int (nI sB), .ref bB])), (bB, .inl (cI, rrB, .inl recB)), (ra, .inr (5, [.int rkn, .int ran, .int rr2, .int rr3, .int rr4, .int (nI rt), .ref a6])), (a6, .inl (cI, 38, .inl rpa)), (cu, .inr (0, [.ref f0, .int (nI lz), .int can, .ref a3l, .int cts, .ref a5t])), (a3l, .inl (cI, 2, .inl lk)), (a5t, .inl (cI, 2, .inl td)), (f0, .inr (4, [.int fc, .ref g1, .ref g2, .ref g3])), (g1, .inl (cI, 3, .inl (fun j => nI (FL j)))), (g2, .inl (cI, 4, .inl fcf)), (g3, .inl (cI, 192, .inl fpf)), (x0, .inr (1, [.int i0, .int i1, .ref a2, .ref a3, .ref s4, .ref s5, .int i6, .ref a7, .ref a8, .ref a9])), (s4, .inr (7, [.ref w4])), (w4, .inl (cI, 34, .inl f4)), (s5, .inr (7, [.ref w5])), (w5, .inl (cI, 34, .inl f5)), (a2, .inl (cI, 3000, .inl ef)), (a7, .inl (cI, rl, .inl rf)), (a8, .inl (cI, 4096, .inl sl)), (a9, .inl (cI, 3000, .inl cm)), (a3, .inl (cI, 38, .inl pp))]) hP [41, 0, 1, 2, 3, 4, 5, 6, 7, 8, 9, 10, 11, 12, 13, 14, 15, 16, 17, 18, 19, 20, 21, 22, 23, 24, 25, 26, 27, 28, 29, 30, 31, 32, 33, 34, 35, 36, 37, 38, 39, 40] rfl
    have hD := gq_subD (X' := [(h0, .inr (8, [.ref a, .int (nI e_2), .ref r0, .int fp, .int ld, .ref p0, .ref m0, .ref x0, .ref oA, .ref oB, .ref ra, .ref cu])), (a, .inl (cB, 4000, .inl f)), (r0, .inr (6, [.ref d0, .int pv, .int fv, .int lp, .ref k4, .ref k5, .ref k6, .ref k7, .int (nI t), .int tl, .int vr, .int vl])), (k4, .inl (cI, 501, .inl (fun j => nI (Kd j)))), (k5, .inl (cI, 501, .inl sf)), (k6, .inl (cI, 501, .inl nf)), (k7, .inl (cI, 6, .inl (fun j => nI (Tk j)))), (p0, .inr (4, [.int (nI nc), .ref b1, .ref b2, .ref b3])), (b1, .inl (cI, 3, .inl (fun j => nI (L j)))), (b2, .inl (cI, 4, .inl cf)), (b3, .inl (cI, 192, .inl pf)), (d0, .inr (4, [.int (nI ncd), .ref e1, .ref e2, .ref e3])), (e1, .inl (cI, 3, .inl (fun j => nI (Ld j)))), (e2, .inl (cI, 4, .inl cfd)), (e3, .inl (cI, 192, .inl pfd)), (m0, .inr (3, [.ref ms, .int vst, .int (nI vk), .int vm, .ref md])), (ms, .inr (7, [.ref mw])), (mw, .inl (cI, 34, .inl mf)), (md, .inl (cI, 38, .inl vd)), (oA, .inr (2, [.int knA, .int flA, .int (nI stA), .int (nI sA), .ref bA])), (bA, .inl (cI, rrA, .inl recA)), (oB, .inr (2, [.int knB, .int flB, .int (nI stB), .int (nI sB), .ref bB])), (bB, .inl (cI, rrB, .inl recB)), (ra, .inr (5, [.int rkn, .int ran, .int rr2, .int rr3, .int rr4, .int (nI rt), .ref a6])), (a6, .inl (cI, 38, .inl rpa)), (cu, .inr (0, [.ref f0, .int (nI lz), .int can, .ref a3l, .int cts, .ref a5t])), (a3l, .inl (cI, 2, .inl lk)), (a5t, .inl (cI, 2, .inl td)), (f0, .inr (4, [.int fc, .ref g1, .ref g2, .ref g3])), (g1, .inl (cI, 3, .inl (fun j => nI (FL j)))), (g2, .inl (cI, 4, .inl fcf)), (g3, .inl (cI, 192, .inl fpf)), (x0, .inr (1, [.int i0, .int i1, .ref a2, .ref a3, .ref s4, .ref s5, .int i6, .ref a7, .ref a8, .ref a9])), (s4, .inr (7, [.ref w4])), (w4, .inl (cI, 34, .inl f4)), (s5, .inr (7, [.ref w5])), (w5, .inl (cI, 34, .inl f5)), (a2, .inl (cI, 3000, .inl ef)), (a7, .inl (cI, rl, .inl rf)), (a8, .inl (cI, 4096, .inl sl)), (a9, .inl (cI, 3000, .inl cm)), (a3, .inl (cI, 38, .inl pp))]) hD [41, 0, 1, 2, 3, 4, 5, 6, 7, 8, 9, 10, 11, 12, 13, 14, 15, 16, 17, 18, 19, 20, 21, 22, 23, 24, 25, 26, 27, 28, 29, 30, 31, 32, 33, 34, 35, 36, 37, 38, 39, 40] (by decide) rfl
    exact kk e_1 _ e_2 f fp ld nc L cf pf vst vk vm vd _ _ H locs (Or.inr (HallE_mk cI cB cZ h0 e_2 f fp ld nc L cf pf vst vk vm vd a r0 k4 k5 k6 k7 p0 b1 b2 b3 d0 e1 e2 e3 m0 ms mw md oA oB ra a6 cu f0 g1 g2 g3 a3l a5t pv fv lp t tl vr vl Kd sf nf Tk ncd Ld cfd pfd mf knA flA stA sA bA rrA recA knB flB stB sB bB rrB recB rkn ran rr2 rr3 rr4 rt rpa lz can cts td lk fc FL fcf fpf x0 a2 s4 w4 s5 w5 a8 a9 a3 i0 i1 i6 a7 rl rf f4 f5 ef sl cm pp (gBk_le htz hq_3) hR hTk hgo hmk hM hsA hrA hmA hsB hrB hmB hrt hlz hrl hrm)) ⟨hq_3, rfl, rfl, rfl, rfl, rfl, rfl, rfl, rfl, rfl, rfl, rfl⟩ hP hD hS
set_option maxHeartbeats 4000000 in
set_option maxRecDepth 100000 in
theorem hl_read {p : Program} {l : Launch} {e : Env} {s : State} {m : MethodId} {below : List Frame} {meth : Method} {c : Code} {b : Nat} {A : Nat → Prop} {Q : State → Prop} {D : va_G} {cI cB cZ : ClassId} {K : gKS} (G : gL p s m c b A D cI cB cZ K) {H : Heap} {locs : List Loc} {ls : Array Slot} {w8 w9 : va_W} {h0 tz kc ns : Nat} {f : Nat → Int32} {fp ld : Int32} {nc : Nat} {L : Nat → Nat} {cf : Nat → Int32} {pf : Nat → Int32} {vst : Int32} {vk : Nat} {vm : Int32} {vd : Nat → Int32} (hH : HallI cI cB cZ h0 w8 tz f fp ld nc L cf pf vst vk vm vd kc ns) (hP : va_P D vwCl (w8 ++ w9) H) (hD : va_D A (w8 ++ w9)) (hS : va_S A s.heap H locs) (hl : ls.size = 4 ∧ True) (kk : ∀ (r : Int32) (w8' : va_W) (tz9 : Nat) (f9 : Nat → Int32) (fp9 ld9 : Int32) (nc9 : Nat) (L9 : Nat → Nat) (cf9 : Nat → Int32) (pf9 : Nat → Int32) (vst9 : Int32) (vk9 : Nat) (vm9 : Int32) (vd9 : Nat → Int32) (kc9 ns9 : Nat) (H1 : Heap) (locs1 : List Loc), HallI cI cB cZ h0 w8' tz9 f9 fp9 ld9 nc9 L9 cf9 pf9 vst9 vk9 vm9 vd9 kc9 ns9 → (tz9 = 0 ∧ f = f9 ∧ vk = vk9 ∧ vm = vm9 ∧ vd = vd9 ∧ ∃ (Kd : Nat → Nat) (sf nf : Nat → Int32) (E : Nat → Nat) (Q : Nat → Int32) (Tk : Nat → Nat), gTS f tz Kd sf nf E ∧ rRes (rTx Kd sf nf Q Tk) sf r fp9 ∧ ((r = 0 ∧ ld9 = 1 ∧ rPrg (rTx Kd sf nf Q Tk) nc9 pf9 L9 cf9 ∧ vst9 = 0) ∨ (¬ r = 0 ∧ ld9 = ld ∧ nc = nc9 ∧ L = L9 ∧ cf = cf9 ∧ pf = pf9 ∧ vst = vst9))) → va_P D vwCl (w8' ++ w9) H1 → va_D A (w8' ++ w9) → va_S A s.heap H1 locs1 → W p l e room_1 s m #[Value.ref b] below meth c H1 locs1 kc9 ns9 Q (F0 m 222 ls [.int r])) : W p l e room_1 s m #[Value.ref b] below meth c H locs kc ns Q (F0 m 219 ls [.ref h0]) := by
  obtain ⟨hx, hb, hml, hown, hts, hA, hK, hN, hE⟩ := G
  rcases hH with hH | hH
  · unfold HallN at hH
    obtain ⟨a, hH⟩ := hH
    obtain ⟨r0, hH⟩ := hH
    obtain ⟨k4, hH⟩ := hH
    obtain ⟨k5, hH⟩ := hH
    obtain ⟨k6, hH⟩ := hH
    obtain ⟨k7, hH⟩ := hH
    obtain ⟨p0, hH⟩ := hH
    obtain ⟨b1, hH⟩ := hH
    obtain ⟨b2, hH⟩ := hH
    obtain ⟨b3, hH⟩ := hH
    obtain ⟨d0, hH⟩ := hH
    obtain ⟨e1, hH⟩ := hH
    obtain ⟨e2, hH⟩ := hH
    obtain ⟨e3, hH⟩ := hH
    obtain ⟨m0, hH⟩ := hH
    obtain ⟨ms, hH⟩ := hH
    obtain ⟨mw, hH⟩ := hH
    obtain ⟨md, hH⟩ := hH
    obtain ⟨oA, hH⟩ := hH
    obtain ⟨oB, hH⟩ := hH
    obtain ⟨ra, hH⟩ := hH
    obtain ⟨a6, hH⟩ := hH
    obtain ⟨cu, hH⟩ := hH
    obtain ⟨f0, hH⟩ := hH
    obtain ⟨g1, hH⟩ := hH
    obtain ⟨g2, hH⟩ := hH
    obtain ⟨g3, hH⟩ := hH
    obtain ⟨a3l, hH⟩ := hH
    obtain ⟨a5t, hH⟩ := hH
    obtain ⟨pv, hH⟩ := hH
    obtain ⟨fv, hH⟩ := hH
    obtain ⟨lp, hH⟩ := hH
    obtain ⟨t, hH⟩ := hH
    obtain ⟨tl, hH⟩ := hH
    obtain ⟨vr, hH⟩ := hH
    obtain ⟨vl, hH⟩ := hH
    obtain ⟨Kd, hH⟩ := hH
    obtain ⟨sf, hH⟩ := hH
    obtain ⟨nf, hH⟩ := hH
    obtain ⟨Tk, hH⟩ := hH
    obtain ⟨ncd, hH⟩ := hH
    obtain ⟨Ld, hH⟩ := hH
    obtain ⟨cfd, hH⟩ := hH
    obtain ⟨pfd, hH⟩ := hH
    obtain ⟨mf, hH⟩ := hH
    obtain ⟨flA, hH⟩ := hH
    obtain ⟨stA, hH⟩ := hH
    obtain ⟨sA, hH⟩ := hH
    obtain ⟨bA, hH⟩ := hH
    obtain ⟨rrA, hH⟩ := hH
    obtain ⟨recA, hH⟩ := hH
    obtain ⟨flB, hH⟩ := hH
    obtain ⟨stB, hH⟩ := hH
    obtain ⟨sB, hH⟩ := hH
    obtain ⟨bB, hH⟩ := hH
    obtain ⟨rrB, hH⟩ := hH
    obtain ⟨recB, hH⟩ := hH
    obtain ⟨ran, hH⟩ := hH
    obtain ⟨rr2, hH⟩ := hH
    obtain ⟨rr3, hH⟩ := hH
    obtain ⟨rr4, hH⟩ := hH
    obtain ⟨rt, hH⟩ := hH
    obtain ⟨rpa, hH⟩ := hH
    obtain ⟨lz, hH⟩ := hH
    obtain ⟨can, hH⟩ := hH
    obtain ⟨cts, hH⟩ := hH
    obtain ⟨td, hH⟩ := hH
    obtain ⟨lk, hH⟩ := hH
    obtain ⟨fc, hH⟩ := hH
    obtain ⟨FL, hH⟩ := hH
    obtain ⟨fcf, hH⟩ := hH
    obtain ⟨fpf, hH⟩ := hH
    obtain ⟨htz, hH⟩ := hH
    obtain ⟨hR, hH⟩ := hH
    obtain ⟨hTk, hH⟩ := hH
    obtain ⟨hgo, hH⟩ := hH
    obtain ⟨hmk, hH⟩ := hH
    obtain ⟨hM, hH⟩ := hH
    obtain ⟨hsA, hH⟩ := hH
    obtain ⟨hrA, hH⟩ := hH
    obtain ⟨hmA, hH⟩ := hH
    obtain ⟨hsB, hH⟩ := hH
    obtain ⟨hrB, hH⟩ := hH
    obtain ⟨hmB, hH⟩ := hH
    obtain ⟨hrt, hH⟩ := hH
    obtain ⟨hlz, hH⟩ := hH
    obtain ⟨rfl, rfl, rfl⟩ := hH
    obtain ⟨hc, hL6, hI5⟩ := id hgo
    have hL := gL6_8 hL6
    have hI := gG_up (b' := 7) hI5 (by decide)
    have hkb := gq_kN hmA hmB
    refine gq_goi (wc := [(h0, .inr (8, [.ref a, .int (nI tz), .ref r0, .int fp, .int ld, .ref p0, .ref m0, .null, .ref oA, .ref oB, .ref ra, .ref cu])), (a, .inl (cB, 4000, .inl f)), (r0, .inr (6, [.ref d0, .int pv, .int fv, .int lp, .ref k4, .ref k5, .ref k6, .ref k7, .int (nI t), .int tl, .int vr, .int vl])), (k4, .inl (cI, 501, .inl (fun j => nI (Kd j)))), (k5, .inl (cI, 501, .inl sf)), (k6, .inl (cI, 501, .inl nf)), (k7, .inl (cI, 6, .inl (fun j => nI (Tk j)))), (p0, .inr (4, [.int (nI nc), .ref b1, .ref b2, .ref b3])), (b1, .inl (cI, 3, .inl (fun j => nI (L j)))), (b2, .inl (cI, 4, .inl cf)), (b3, .inl (cI, 192, .inl pf)), (d0, .inr (4, [.int (nI ncd), .ref e1, .ref e2, .ref e3])), (e1, .inl (cI, 3, .inl (fun j => nI (Ld j)))), (e2, .inl (cI, 4, .inl cfd)), (e3, .inl (cI, 192, .inl pfd)), (m0, .inr (3, [.ref ms, .int vst, .int (nI vk), .int vm, .ref md])), (oA, .inr (2, [.int 0, .int flA, .int (nI stA), .int (nI sA), .ref bA])), (oB, .inr (2, [.int 0, .int flB, .int (nI stB), .int (nI sB), .ref bB])), (ra, .inr (5, [.int 0, .int ran, .int rr2, .int rr3, .int rr4, .int (nI rt), .ref a6])), (cu, .inr (0, [.ref f0, .int (nI lz), .int can, .ref a3l, .int cts, .ref a5t]))]) (wr := [(ms, .inr (7, [.ref mw])), (mw, .inl (cI, 34, .inl mf)), (md, .inl (cI, 38, .inl vd)), (bA, .inl (cI, rrA, .inl recA)), (bB, .inl (cI, rrB, .inl recB)), (a6, .inl (cI, 38, .inl rpa)), (a3l, .inl (cI, 2, .inl lk)), (a5t, .inl (cI, 2, .inl td)), (f0, .inr (4, [.int fc, .ref g1, .ref g2, .ref g3])), (g1, .inl (cI, 3, .inl (fun j => nI (FL j)))), (g2, .inl (cI, 4, .inl fcf)), (g3, .inl (cI, 192, .inl fpf))]) (va_runV (As := []) (rest := []) ⟨hx, hb, hml, hown, hts⟩ (x_read8 l D cI cB cZ K h0 a r0 k4 k5 k6 k7 m0 oA oB ra cu p0 b1 b2 b3 d0 e1 e2 e3 (.null) (.ref ms) (.int (nI vk)) (.int vm) (.ref md) (.int flA) (.int (nI stA)) (.int (nI sA)) (.ref bA) (.int flB) (.int (nI stB)) (.int (nI sB)) (.ref bB) (.int ran) (.int rr2) (.int rr3) (.int rr4) (.int (nI rt)) (.ref a6) (.ref f0) (.ref a3l) (.int cts) (.ref a5t) f tz fp ld pv fv lp t tl vr vl Kd sf nf Tk nc L cf pf ncd Ld cfd pfd vst 0 0 0 (nI lz) can htz hR hTk hgo _) (cwV 0 hts gP_law__x_read8 rfl rfl rfl (by decide +kernel) ⟨Nat.le_of_ble_eq_true rfl, Nat.le_of_ble_eq_true rfl⟩) (ge_preV (ci := 8) (q0 := 0) hE hS hA hK gN.nil (gq_Pl hP) (gq_Dl hD) [0, 1, 2, 3, 4, 5, 6, 7, 8, 9, 10, 11, 12, 13, 14, 15, 19, 21, 23, 25] rfl rfl rfl rfl) rfl rfl hl.1 rfl (lv_room (Nat.le_of_ble_eq_true rfl)) dL_law_219 ⟨(Nat.le_trans (Nat.add_le_add_right hkb.1 _) (Nat.le_of_ble_eq_true rfl)), (Nat.le_trans (Nat.add_le_add_right hkb.2 _) (Nat.le_of_ble_eq_true rfl))⟩) hP hD hS hA [0, 1, 2, 3, 4, 5, 6, 7, 8, 9, 10, 11, 12, 13, 14, 15, 19, 21, 23, 25] [16, 17, 18, 20, 22, 24, 26, 27, 28, 29, 30, 31] rfl rfl rfl (by decide) (fun r1 w1 H locs hp hP hD hS => ?_)
    obtain ⟨e_1, hp⟩ := hp
    obtain ⟨e_2, hp⟩ := hp
    obtain ⟨e_3, hp⟩ := hp
    obtain ⟨e_4, hp⟩ := hp
    obtain ⟨e_5, hp⟩ := hp
    obtain ⟨e_6, hp⟩ := hp
    obtain ⟨e_7, hp⟩ := hp
    obtain ⟨e_8, hp⟩ := hp
    obtain ⟨e_9, hp⟩ := hp
    obtain ⟨e_10, hp⟩ := hp
    obtain ⟨e_11, hp⟩ := hp
    obtain ⟨e_12, hp⟩ := hp
    obtain ⟨e_13, hp⟩ := hp
    obtain ⟨e_14, hp⟩ := hp
    obtain ⟨e_15, hp⟩ := hp
    obtain ⟨e_16, hp⟩ := hp
    obtain ⟨e_17, hp⟩ := hp
    obtain ⟨e_18, hp⟩ := hp
    obtain ⟨e_19, hp⟩ := hp
    obtain ⟨e_20, hp⟩ := hp
    obtain ⟨e_21, hp⟩ := hp
    obtain ⟨e_22, hp⟩ := hp
    obtain ⟨e_23, hp⟩ := hp
    obtain ⟨e_24, hp⟩ := hp
    obtain ⟨e_25, hp⟩ := hp
    obtain ⟨e_26, hp⟩ := hp
    obtain ⟨e_27, hp⟩ := hp
    obtain ⟨e_28, hp⟩ := hp
    obtain ⟨e_29, hp⟩ := hp
    obtain ⟨e_30, hp⟩ := hp
    obtain ⟨e_31, hp⟩ := hp
    obtain ⟨e_32, hp⟩ := hp
    obtain ⟨e_33, hp⟩ := hp
    obtain ⟨e_34, hp⟩ := hp
    obtain ⟨e_35, hp⟩ := hp
    obtain ⟨e_36, hp⟩ := hp
    obtain ⟨e_37, hp⟩ := hp
    obtain ⟨hq_38, hp⟩ := hp
    obtain ⟨hq_39, hp⟩ := hp
    obtain ⟨hq_40, hp⟩ := hp
    obtain ⟨hq_41, hp⟩ := hp
    obtain ⟨hx219_0, hp⟩ := hp
    obtain ⟨hx219_1, hp⟩ := hp
    obtain ⟨hx219_2, hp⟩ := hp
    obtain ⟨h9, hp⟩ := hp
    subst hp
    have h9 := h9.symm
    subst h9
    have hq_38 : e_23 ≤ 3 ∧ (∀ j, j < 3 → e_24 j ≤ 6) ∧ gG e_24 e_26 5 := hq_38
    have hq_39 : gRdI e_11 e_13 e_12 := hq_39
    have hq_40 : ∀ j, j < 6 → e_14 j ≤ 500 := hq_40
    have hq_41 : (e_23 = nc ∧ e_24 = L ∧ e_25 = cf ∧ e_26 = pf ∧ e_3 = ld ∧ e_31 = vst ∧ e_32 = 0 ∧ e_33 = 0 ∧ e_34 = 0 ∧ e_35 = (nI lz) ∧ e_36 = can) ∨ (e_31 = 0 ∧ e_32 = 0 ∧ e_33 = 0 ∧ e_34 = 0 ∧ e_35 = 0 ∧ e_36 = (-1)) := hq_41
    have hx219_0 : gTS f tz e_11 e_12 e_13 e_37 := hx219_0
    have hx219_1 : rRes (rTx e_11 e_12 e_13 pfd Tk) e_12 e_1 e_2 := hx219_1
    have hx219_2 : (e_1 = 0 ∧ e_3 = 1 ∧ rPrg (rTx e_11 e_12 e_13 pfd Tk) e_23 e_26 e_24 e_25 ∧ (e_31 = 0 ∧ e_32 = 0 ∧ e_33 = 0 ∧ e_34 = 0 ∧ e_35 = 0 ∧ e_36 = (-1))) ∨ (¬ e_1 = 0 ∧ (e_23 = nc ∧ e_24 = L ∧ e_25 = cf ∧ e_26 = pf ∧ e_3 = ld ∧ e_31 = vst ∧ e_32 = 0 ∧ e_33 = 0 ∧ e_34 = 0 ∧ e_35 = (nI lz) ∧ e_36 = can)) := hx219_2
    have hP : va_P D vwCl ([(ms, .inr (7, [.ref mw])), (mw, .inl (cI, 34, .inl mf)), (md, .inl (cI, 38, .inl vd)), (bA, .inl (cI, rrA, .inl recA)), (bB, .inl (cI, rrB, .inl recB)), (a6, .inl (cI, 38, .inl rpa)), (a3l, .inl (cI, 2, .inl lk)), (a5t, .inl (cI, 2, .inl td)), (f0, .inr (4, [.int fc, .ref g1, .ref g2, .ref g3])), (g1, .inl (cI, 3, .inl (fun j => nI (FL j)))), (g2, .inl (cI, 4, .inl fcf)), (g3, .inl (cI, 192, .inl fpf)), (h0, .inr (8, [.ref a, .int 0, .ref r0, .int e_2, .int e_3, .ref e_15, .ref m0, .null, .ref oA, .ref oB, .ref ra, .ref cu])), (a, .inl (cB, 4000, .inl f)), (r0, .inr (6, [.ref e_19, .int e_4, .int e_5, .int e_6, .ref k4, .ref k5, .ref k6, .ref k7, .int (nI e_7), .int e_8, .int e_9, .int e_10])), (k4, .inl (cI, 501, .inl (fun j => nI (e_11 j)))), (k5, .inl (cI, 501, .inl e_12)), (k6, .inl (cI, 501, .inl e_13)), (k7, .inl (cI, 6, .inl (fun j => nI (e_14 j)))), (e_15, .inr (4, [.int (nI e_23), .ref e_16, .ref e_17, .ref e_18])), (e_16, .inl (cI, 3, .inl (fun j => nI (e_24 j)))), (e_17, .inl (cI, 4, .inl e_25)), (e_18, .inl (cI, 192, .inl e_26)), (e_19, .inr (4, [.int (nI e_27), .ref e_20, .ref e_21, .ref e_22])), (e_20, .inl (cI, 3, .inl (fun j => nI (e_28 j)))), (e_21, .inl (cI, 4, .inl e_29)), (e_22, .inl (cI, 192, .inl e_30)), (m0, .inr (3, [.ref ms, .int e_31, .int (nI vk), .int vm, .ref md])), (oA, .inr (2, [.int e_32, .int flA, .int (nI stA), .int (nI sA), .ref bA])), (oB, .inr (2, [.int e_33, .int flB, .int (nI stB), .int (nI sB), .ref bB])), (ra, .inr (5, [.int e_34, .int ran, .int rr2, .int rr3, .int rr4, .int (nI rt), .ref a6])), (cu, .inr (0, [.ref f0, .int e_35, .int e_36, .ref a3l, .int cts, .ref a5t]))] ++ w9) H := hP
    have hD : va_D A ([(ms, .inr (7, [.ref mw])), (mw, .inl (cI, 34, .inl mf)), (md, .inl (cI, 38, .inl vd)), (bA, .inl (cI, rrA, .inl recA)), (bB, .inl (cI, rrB, .inl recB)), (a6, .inl (cI, 38, .inl rpa)), (a3l, .inl (cI, 2, .inl lk)), (a5t, .inl (cI, 2, .inl td)), (f0, .inr (4, [.int fc, .ref g1, .ref g2, .ref g3])), (g1, .inl (cI, 3, .inl (fun j => nI (FL j)))), (g2, .inl (cI, 4, .inl fcf)), (g3, .inl (cI, 192, .inl fpf)), (h0, .inr (8, [.ref a, .int 0, .ref r0, .int e_2, .int e_3, .ref e_15, .ref m0, .null, .ref oA, .ref oB, .ref ra, .ref cu])), (a, .inl (cB, 4000, .inl f)), (r0, .inr (6, [.ref e_19, .int e_4, .int e_5, .int e_6, .ref k4, .ref k5, .ref k6, .ref k7, .int (nI e_7), .int e_8, .int e_9, .int e_10])), (k4, .inl (cI, 501, .inl (fun j => nI (e_11 j)))), (k5, .inl (cI, 501, .inl e_12)), (k6, .inl (cI, 501, .inl e_13)), (k7, .inl (cI, 6, .inl (fun j => nI (e_14 j)))), (e_15, .inr (4, [.int (nI e_23), .ref e_16, .ref e_17, .ref e_18])), (e_16, .inl (cI, 3, .inl (fun j => nI (e_24 j)))), (e_17, .inl (cI, 4, .inl e_25)), (e_18, .inl (cI, 192, .inl e_26)), (e_19, .inr (4, [.int (nI e_27), .ref e_20, .ref e_21, .ref e_22])), (e_20, .inl (cI, 3, .inl (fun j => nI (e_28 j)))), (e_21, .inl (cI, 4, .inl e_29)), (e_22, .inl (cI, 192, .inl e_30)), (m0, .inr (3, [.ref ms, .int e_31, .int (nI vk), .int vm, .ref md])), (oA, .inr (2, [.int e_32, .int flA, .int (nI stA), .int (nI sA), .ref bA])), (oB, .inr (2, [.int e_33, .int flB, .int (nI stB), .int (nI sB), .ref bB])), (ra, .inr (5, [.int e_34, .int ran, .int rr2, .int rr3, .int rr4, .int (nI rt), .ref a6])), (cu, .inr (0, [.ref f0, .int e_35, .int e_36, .ref a3l, .int cts, .ref a5t]))] ++ w9) := hD
    refine W.widen (k := 63 + (rrA / 17) + (rrB / 17)) (n := 584682 + (2 * rrA + 51000 * (rrA / 51000)) + (2 * rrB + 51000 * (rrB / 51000))) (Nat.le_refl _) (Nat.le_refl _) ?_
    rcases hx219_2 with hX | hX
    · obtain ⟨hzr, q_0, hpg, q_1, q_2, q_3, q_4, q_5, q_6⟩ := hX
      have q_0 := q_0.symm; subst q_0
      have q_1 := q_1.symm; subst q_1
      have q_2 := q_2.symm; subst q_2
      have q_3 := q_3.symm; subst q_3
      have q_4 := q_4.symm; subst q_4
      have q_5 := q_5.symm; subst q_5
      have q_6 := q_6.symm; subst q_6
      have hP : va_P D vwCl ([(ms, .inr (7, [.ref mw])), (mw, .inl (cI, 34, .inl mf)), (md, .inl (cI, 38, .inl vd)), (bA, .inl (cI, rrA, .inl recA)), (bB, .inl (cI, rrB, .inl recB)), (a6, .inl (cI, 38, .inl rpa)), (a3l, .inl (cI, 2, .inl lk)), (a5t, .inl (cI, 2, .inl td)), (f0, .inr (4, [.int fc, .ref g1, .ref g2, .ref g3])), (g1, .inl (cI, 3, .inl (fun j => nI (FL j)))), (g2, .inl (cI, 4, .inl fcf)), (g3, .inl (cI, 192, .inl fpf)), (h0, .inr (8, [.ref a, .int 0, .ref r0, .int e_2, .int 1, .ref e_15, .ref m0, .null, .ref oA, .ref oB, .ref ra, .ref cu])), (a, .inl (cB, 4000, .inl f)), (r0, .inr (6, [.ref e_19, .int e_4, .int e_5, .int e_6, .ref k4, .ref k5, .ref k6, .ref k7, .int (nI e_7), .int e_8, .int e_9, .int e_10])), (k4, .inl (cI, 501, .inl (fun j => nI (e_11 j)))), (k5, .inl (cI, 501, .inl e_12)), (k6, .inl (cI, 501, .inl e_13)), (k7, .inl (cI, 6, .inl (fun j => nI (e_14 j)))), (e_15, .inr (4, [.int (nI e_23), .ref e_16, .ref e_17, .ref e_18])), (e_16, .inl (cI, 3, .inl (fun j => nI (e_24 j)))), (e_17, .inl (cI, 4, .inl e_25)), (e_18, .inl (cI, 192, .inl e_26)), (e_19, .inr (4, [.int (nI e_27), .ref e_20, .ref e_21, .ref e_22])), (e_20, .inl (cI, 3, .inl (fun j => nI (e_28 j)))), (e_21, .inl (cI, 4, .inl e_29)), (e_22, .inl (cI, 192, .inl e_30)), (m0, .inr (3, [.ref ms, .int 0, .int (nI vk), .int vm, .ref md])), (oA, .inr (2, [.int 0, .int flA, .int (nI stA), .int (nI sA), .ref bA])), (oB, .inr (2, [.int 0, .int flB, .int (nI stB), .int (nI sB), .ref bB])), (ra, .inr (5, [.int 0, .int ran, .int rr2, .int rr3, .int rr4, .int (nI rt), .ref a6])), (cu, .inr (0, [.ref f0, .int 0, .int (-1), .ref a3l, .int cts, .ref a5t]))] ++ w9) H := hP
      have hD : va_D A ([(ms, .inr (7, [.ref mw])), (mw, .inl (cI, 34, .inl mf)), (md, .inl (cI, 38, .inl vd)), (bA, .inl (cI, rrA, .inl recA)), (bB, .inl (cI, rrB, .inl recB)), (a6, .inl (cI, 38, .inl rpa)), (a3l, .inl (cI, 2, .inl lk)), (a5t, .inl (cI, 2, .inl td)), (f0, .inr (4, [.int fc, .ref g1, .ref g2, .ref g3])), (g1, .inl (cI, 3, .inl (fun j => nI (FL j)))), (g2, .inl (cI, 4, .inl fcf)), (g3, .inl (cI, 192, .inl fpf)), (h0, .inr (8, [.ref a, .int 0, .ref r0, .int e_2, .int 1, .ref e_15, .ref m0, .null, .ref oA, .ref oB, .ref ra, .ref cu])), (a, .inl (cB, 4000, .inl f)), (r0, .inr (6, [.ref e_19, .int e_4, .int e_5, .int e_6, .ref k4, .ref k5, .ref k6, .ref k7, .int (nI e_7), .int e_8, .int e_9, .int e_10])), (k4, .inl (cI, 501, .inl (fun j => nI (e_11 j)))), (k5, .inl (cI, 501, .inl e_12)), (k6, .inl (cI, 501, .inl e_13)), (k7, .inl (cI, 6, .inl (fun j => nI (e_14 j)))), (e_15, .inr (4, [.int (nI e_23), .ref e_16, .ref e_17, .ref e_18])), (e_16, .inl (cI, 3, .inl (fun j => nI (e_24 j)))), (e_17, .inl (cI, 4, .inl e_25)), (e_18, .inl (cI, 192, .inl e_26)), (e_19, .inr (4, [.int (nI e_27), .ref e_20, .ref e_21, .ref e_22])), (e_20, .inl (cI, 3, .inl (fun j => nI (e_28 j)))), (e_21, .inl (cI, 4, .inl e_29)), (e_22, .inl (cI, 192, .inl e_30)), (m0, .inr (3, [.ref ms, .int 0, .int (nI vk), .int vm, .ref md])), (oA, .inr (2, [.int 0, .int flA, .int (nI stA), .int (nI sA), .ref bA])), (oB, .inr (2, [.int 0, .int flB, .int (nI stB), .int (nI sB), .ref bB])), (ra, .inr (5, [.int 0, .int ran, .int rr2, .int rr3, .int rr4, .int (nI rt), .ref a6])), (cu, .inr (0, [.ref f0, .int 0, .int (-1), .ref a3l, .int cts, .ref a5t]))] ++ w9) := hD
      have hP := gq_subP (X' := [(h0, .inr (8, [.ref a, .int 0, .ref r0, .int e_2, .int 1, .ref e_15, .ref m0, .null, .ref oA, .ref oB, .ref ra, .ref cu])), (a, .inl (cB, 4000, .inl f)), (r0, .inr (6, [.ref e_19, .int e_4, .int e_5, .int e_6, .ref k4, .ref k5, .ref k6, .ref k7, .int (nI e_7), .int e_8, .int e_9, .int e_10])), (k4, .inl (cI, 501, .inl (fun j => nI (e_11 j)))), (k5, .inl (cI, 501, .inl e_12)), (k6, .inl (cI, 501, .inl e_13)), (k7, .inl (cI, 6, .inl (fun j => nI (e_14 j)))), (e_15, .inr (4, [.int (nI e_23), .ref e_16, .ref e_17, .ref e_18])), (e_16, .inl (cI, 3, .inl (fun j => nI (e_24 j)))), (e_17, .inl (cI, 4, .inl e_25)), (e_18, .inl (cI, 192, .inl e_26)), (e_19, .inr (4, [.int (nI e_27), .ref e_20, .ref e_21, .ref e_22])), (e_20, .inl (cI, 3, .inl (fun j => nI (e_28 j)))), (e_21, .inl (cI, 4, .inl e_29)), (e_22, .inl (cI, 192, .inl e_30)), (m0, .inr (3, [.ref ms, .int 0, .int (nI vk), .int vm, .ref md])), (ms, .inr (7, [.ref mw])), (mw, .inl (cI, 34, .inl mf)), (md, .inl (cI, 38, .inl vd)), (oA, .inr (2, [.int 0, .int flA, .int (nI stA), .int (nI sA), .ref bA])), (bA, .inl (cI, rrA, .inl recA)), (oB, .inr (2, [.int 0, .int flB, .int (nI stB), .int (nI sB), .ref bB])), (bB, .inl (cI, rrB, .inl recB)), (ra, .inr (5, [.int 0, .int ran, .int rr2, .int rr3, .int rr4, .int (nI rt), .ref a6])), (a6, .inl (cI, 38, .inl rpa)), (cu, .inr (0, [.ref f0, .int 0, .int (-1), .ref a3l, .int cts, .ref a5t])), (a3l, .inl (cI, 2, .inl lk)), (a5t, .inl (cI, 2, .inl td)), (f0, .inr (4, [.int fc, .ref g1, .ref g2, .ref g3])), (g1, .inl (cI, 3, .inl (fun j => nI (FL j)))), (g2, .inl (cI, 4, .inl fcf)), (g3, .inl (cI, 192, .inl fpf))]) hP [12, 13, 14, 15, 16, 17, 18, 19, 20, 21, 22, 23, 24, 25, 26, 27, 0, 1, 2, 28, 3, 29, 4, 30, 5, 31, 6, 7, 8, 9, 10, 11] rfl
      have hD := gq_subD (X' := [(h0, .inr (8, [.ref a, .int 0, .ref r0, .int e_2, .int 1, .ref e_15, .ref m0, .null, .ref oA, .ref oB, .ref ra, .ref cu])), (a, .inl (cB, 4000, .inl f)), (r0, .inr (6, [.ref e_19, .int e_4, .int e_5, .int e_6, .ref k4, .ref k5, .ref k6, .ref k7, .int (nI e_7), .int e_8, .int e_9, .int e_10])), (k4, .inl (cI, 501, .inl (fun j => nI (e_11 j)))), (k5, .inl (cI, 501, .inl e_12)), (k6, .inl (cI, 501, .inl e_13)), (k7, .inl (cI, 6, .inl (fun j => nI (e_14 j)))), (e_15, .inr (4, [.int (nI e_23), .ref e_16, .ref e_17, .ref e_18])), (e_16, .inl (cI, 3, .inl (fun j => nI (e_24 j)))), (e_17, .inl (cI, 4, .inl e_25)), (e_18, .inl (cI, 192, .inl e_26)), (e_19, .inr (4, [.int (nI e_27), .ref e_20, .ref e_21, .ref e_22])), (e_20, .inl (cI, 3, .inl (fun j => nI (e_28 j)))), (e_21, .inl (cI, 4, .inl e_29)), (e_22, .inl (cI, 192, .inl e_30)), (m0, .inr (3, [.ref ms, .int 0, .int (nI vk), .int vm, .ref md])), (ms, .inr (7, [.ref mw])), (mw, .inl (cI, 34, .inl mf)), (md, .inl (cI, 38, .inl vd)), (oA, .inr (2, [.int 0, .int flA, .int (nI stA), .int (nI sA), .ref bA])), (bA, .inl (cI, rrA, .inl recA)), (oB, .inr (2, [.int 0, .int flB, .int (nI stB), .int (nI sB), .ref bB])), (bB, .inl (cI, rrB, .inl recB)), (ra, .inr (5, [.int 0, .int ran, .int rr2, .int rr3, .int rr4, .int (nI rt), .ref a6])), (a6, .inl (cI, 38, .inl rpa)), (cu, .inr (0, [.ref f0, .int 0, .int (-1), .ref a3l, .int cts, .ref a5t])), (a3l, .inl (cI, 2, .inl lk)), (a5t, .inl (cI, 2, .inl td)), (f0, .inr (4, [.int fc, .ref g1, .ref g2, .ref g3])), (g1, .inl (cI, 3, .inl (fun j => nI (FL j)))), (g2, .inl (cI, 4, .inl fcf)), (g3, .inl (cI, 192, .inl fpf))]) hD [12, 13, 14, 15, 16, 17, 18, 19, 20, 21, 22, 23, 24, 25, 26, 27, 0, 1, 2, 28, 3, 29, 4, 30, 5, 31, 6, 7, 8, 9, 10, 11] (by decide) rfl
      exact kk e_1 _ 0 f e_2 1 e_23 e_24 e_25 e_26 0 vk vm vd _ _ H locs (Or.inl (HallN_mk cI cB cZ h0 0 f e_2 1 e_23 e_24 e_25 e_26 0 vk vm vd a r0 k4 k5 k6 k7 e_15 e_16 e_17 e_18 e_19 e_20 e_21 e_22 m0 ms mw md oA oB ra a6 cu f0 g1 g2 g3 a3l a5t e_4 e_5 e_6 e_7 e_8 e_9 e_10 e_11 e_12 e_13 e_14 e_27 e_28 e_29 e_30 mf flA stA sA bA rrA recA flB stB sB bB rrB recB ran rr2 rr3 rr4 rt rpa 0 (-1) cts td lk fc FL fcf fpf (Nat.zero_le _) hq_39 hq_40 hq_38 hmk (Or.inl rfl) hsA hrA hmA hsB hrB hmB hrt (Nat.zero_le _))) ⟨rfl, rfl, rfl, rfl, rfl, _, _, _, _, _, _, hx219_0, hx219_1, Or.inl ⟨hzr, rfl, hpg, rfl⟩⟩ hP hD hS
    · obtain ⟨hzr, q_0, q_1, q_2, q_3, q_4, q_5, q_6, q_7, q_8, q_9, q_10⟩ := hX
      have q_0 := q_0.symm; subst q_0
      have q_1 := q_1.symm; subst q_1
      have q_2 := q_2.symm; subst q_2
      have q_3 := q_3.symm; subst q_3
      have q_4 := q_4.symm; subst q_4
      have q_5 := q_5.symm; subst q_5
      have q_6 := q_6.symm; subst q_6
      have q_7 := q_7.symm; subst q_7
      have q_8 := q_8.symm; subst q_8
      have q_9 := q_9.symm; subst q_9
      have q_10 := q_10.symm; subst q_10
      have hP : va_P D vwCl ([(ms, .inr (7, [.ref mw])), (mw, .inl (cI, 34, .inl mf)), (md, .inl (cI, 38, .inl vd)), (bA, .inl (cI, rrA, .inl recA)), (bB, .inl (cI, rrB, .inl recB)), (a6, .inl (cI, 38, .inl rpa)), (a3l, .inl (cI, 2, .inl lk)), (a5t, .inl (cI, 2, .inl td)), (f0, .inr (4, [.int fc, .ref g1, .ref g2, .ref g3])), (g1, .inl (cI, 3, .inl (fun j => nI (FL j)))), (g2, .inl (cI, 4, .inl fcf)), (g3, .inl (cI, 192, .inl fpf)), (h0, .inr (8, [.ref a, .int 0, .ref r0, .int e_2, .int ld, .ref e_15, .ref m0, .null, .ref oA, .ref oB, .ref ra, .ref cu])), (a, .inl (cB, 4000, .inl f)), (r0, .inr (6, [.ref e_19, .int e_4, .int e_5, .int e_6, .ref k4, .ref k5, .ref k6, .ref k7, .int (nI e_7), .int e_8, .int e_9, .int e_10])), (k4, .inl (cI, 501, .inl (fun j => nI (e_11 j)))), (k5, .inl (cI, 501, .inl e_12)), (k6, .inl (cI, 501, .inl e_13)), (k7, .inl (cI, 6, .inl (fun j => nI (e_14 j)))), (e_15, .inr (4, [.int (nI nc), .ref e_16, .ref e_17, .ref e_18])), (e_16, .inl (cI, 3, .inl (fun j => nI (L j)))), (e_17, .inl (cI, 4, .inl cf)), (e_18, .inl (cI, 192, .inl pf)), (e_19, .inr (4, [.int (nI e_27), .ref e_20, .ref e_21, .ref e_22])), (e_20, .inl (cI, 3, .inl (fun j => nI (e_28 j)))), (e_21, .inl (cI, 4, .inl e_29)), (e_22, .inl (cI, 192, .inl e_30)), (m0, .inr (3, [.ref ms, .int vst, .int (nI vk), .int vm, .ref md])), (oA, .inr (2, [.int 0, .int flA, .int (nI stA), .int (nI sA), .ref bA])), (oB, .inr (2, [.int 0, .int flB, .int (nI stB), .int (nI sB), .ref bB])), (ra, .inr (5, [.int 0, .int ran, .int rr2, .int rr3, .int rr4, .int (nI rt), .ref a6])), (cu, .inr (0, [.ref f0, .int (nI lz), .int can, .ref a3l, .int cts, .ref a5t]))] ++ w9) H := hP
      have hD : va_D A ([(ms, .inr (7, [.ref mw])), (mw, .inl (cI, 34, .inl mf)), (md, .inl (cI, 38, .inl vd)), (bA, .inl (cI, rrA, .inl recA)), (bB, .inl (cI, rrB, .inl recB)), (a6, .inl (cI, 38, .inl rpa)), (a3l, .inl (cI, 2, .inl lk)), (a5t, .inl (cI, 2, .inl td)), (f0, .inr (4, [.int fc, .ref g1, .ref g2, .ref g3])), (g1, .inl (cI, 3, .inl (fun j => nI (FL j)))), (g2, .inl (cI, 4, .inl fcf)), (g3, .inl (cI, 192, .inl fpf)), (h0, .inr (8, [.ref a, .int 0, .ref r0, .int e_2, .int ld, .ref e_15, .ref m0, .null, .ref oA, .ref oB, .ref ra, .ref cu])), (a, .inl (cB, 4000, .inl f)), (r0, .inr (6, [.ref e_19, .int e_4, .int e_5, .int e_6, .ref k4, .ref k5, .ref k6, .ref k7, .int (nI e_7), .int e_8, .int e_9, .int e_10])), (k4, .inl (cI, 501, .inl (fun j => nI (e_11 j)))), (k5, .inl (cI, 501, .inl e_12)), (k6, .inl (cI, 501, .inl e_13)), (k7, .inl (cI, 6, .inl (fun j => nI (e_14 j)))), (e_15, .inr (4, [.int (nI nc), .ref e_16, .ref e_17, .ref e_18])), (e_16, .inl (cI, 3, .inl (fun j => nI (L j)))), (e_17, .inl (cI, 4, .inl cf)), (e_18, .inl (cI, 192, .inl pf)), (e_19, .inr (4, [.int (nI e_27), .ref e_20, .ref e_21, .ref e_22])), (e_20, .inl (cI, 3, .inl (fun j => nI (e_28 j)))), (e_21, .inl (cI, 4, .inl e_29)), (e_22, .inl (cI, 192, .inl e_30)), (m0, .inr (3, [.ref ms, .int vst, .int (nI vk), .int vm, .ref md])), (oA, .inr (2, [.int 0, .int flA, .int (nI stA), .int (nI sA), .ref bA])), (oB, .inr (2, [.int 0, .int flB, .int (nI stB), .int (nI sB), .ref bB])), (ra, .inr (5, [.int 0, .int ran, .int rr2, .int rr3, .int rr4, .int (nI rt), .ref a6])), (cu, .inr (0, [.ref f0, .int (nI lz), .int can, .ref a3l, .int cts, .ref a5t]))] ++ w9) := hD
      have hP := gq_subP (X' := [(h0, .inr (8, [.ref a, .int 0, .ref r0, .int e_2, .int ld, .ref e_15, .ref m0, .null, .ref oA, .ref oB, .ref ra, .ref cu])), (a, .inl (cB, 4000, .inl f)), (r0, .inr (6, [.ref e_19, .int e_4, .int e_5, .int e_6, .ref k4, .ref k5, .ref k6, .ref k7, .int (nI e_7), .int e_8, .int e_9, .int e_10])), (k4, .inl (cI, 501, .inl (fun j => nI (e_11 j)))), (k5, .inl (cI, 501, .inl e_12)), (k6, .inl (cI, 501, .inl e_13)), (k7, .inl (cI, 6, .inl (fun j => nI (e_14 j)))), (e_15, .inr (4, [.int (nI nc), .ref e_16, .ref e_17, .ref e_18])), (e_16, .inl (cI, 3, .inl (fun j => nI (L j)))), (e_17, .inl (cI, 4, .inl cf)), (e_18, .inl (cI, 192, .inl pf)), (e_19, .inr (4, [.int (nI e_27), .ref e_20, .ref e_21, .ref e_22])), (e_20, .inl (cI, 3, .inl (fun j => nI (e_28 j)))), (e_21, .inl (cI, 4, .inl e_29)), (e_22, .inl (cI, 192, .inl e_30)), (m0, .inr (3, [.ref ms, .int vst, .int (nI vk), .int vm, .ref md])), (ms, .inr (7, [.ref mw])), (mw, .inl (cI, 34, .inl mf)), (md, .inl (cI, 38, .inl vd)), (oA, .inr (2, [.int 0, .int flA, .int (nI stA), .int (nI sA), .ref bA])), (bA, .inl (cI, rrA, .inl recA)), (oB, .inr (2, [.int 0, .int flB, .int (nI stB), .int (nI sB), .ref bB])), (bB, .inl (cI, rrB, .inl recB)), (ra, .inr (5, [.int 0, .int ran, .int rr2, .int rr3, .int rr4, .int (nI rt), .ref a6])), (a6, .inl (cI, 38, .inl rpa)), (cu, .inr (0, [.ref f0, .int (nI lz), .int can, .ref a3l, .int cts, .ref a5t])), (a3l, .inl (cI, 2, .inl lk)), (a5t, .inl (cI, 2, .inl td)), (f0, .inr (4, [.int fc, .ref g1, .ref g2, .ref g3])), (g1, .inl (cI, 3, .inl (fun j => nI (FL j)))), (g2, .inl (cI, 4, .inl fcf)), (g3, .inl (cI, 192, .inl fpf))]) hP [12, 13, 14, 15, 16, 17, 18, 19, 20, 21, 22, 23, 24, 25, 26, 27, 0, 1, 2, 28, 3, 29, 4, 30, 5, 31, 6, 7, 8, 9, 10, 11] rfl
      have hD := gq_subD (X' := [(h0, .inr (8, [.ref a, .int 0, .ref r0, .int e_2, .int ld, .ref e_15, .ref m0, .null, .ref oA, .ref oB, .ref ra, .ref cu])), (a, .inl (cB, 4000, .inl f)), (r0, .inr (6, [.ref e_19, .int e_4, .int e_5, .int e_6, .ref k4, .ref k5, .ref k6, .ref k7, .int (nI e_7), .int e_8, .int e_9, .int e_10])), (k4, .inl (cI, 501, .inl (fun j => nI (e_11 j)))), (k5, .inl (cI, 501, .inl e_12)), (k6, .inl (cI, 501, .inl e_13)), (k7, .inl (cI, 6, .inl (fun j => nI (e_14 j)))), (e_15, .inr (4, [.int (nI nc), .ref e_16, .ref e_17, .ref e_18])), (e_16, .inl (cI, 3, .inl (fun j => nI (L j)))), (e_17, .inl (cI, 4, .inl cf)), (e_18, .inl (cI, 192, .inl pf)), (e_19, .inr (4, [.int (nI e_27), .ref e_20, .ref e_21, .ref e_22])), (e_20, .inl (cI, 3, .inl (fun j => nI (e_28 j)))), (e_21, .inl (cI, 4, .inl e_29)), (e_22, .inl (cI, 192, .inl e_30)), (m0, .inr (3, [.ref ms, .int vst, .int (nI vk), .int vm, .ref md])), (ms, .inr (7, [.ref mw])), (mw, .inl (cI, 34, .inl mf)), (md, .inl (cI, 38, .inl vd)), (oA, .inr (2, [.int 0, .int flA, .int (nI stA), .int (nI sA), .ref bA])), (bA, .inl (cI, rrA, .inl recA)), (oB, .inr (2, [.int 0, .int flB, .int (nI stB), .int (nI sB), .ref bB])), (bB, .inl (cI, rrB, .inl recB)), (ra, .inr (5, [.int 0, .int ran, .int rr2, .int rr3, .int rr4, .int (nI rt), .ref a6])), (a6, .inl (cI, 38, .inl rpa)), (cu, .inr (0, [.ref f0, .int (nI lz), .int can, .ref a3l, .int cts, .ref a5t])), (a3l, .inl (cI, 2, .inl lk)), (a5t, .inl (cI, 2, .inl td)), (f0, .inr (4, [.int fc, .ref g1, .ref g2, .ref g3])), (g1, .inl (cI, 3, .inl (fun j => nI (FL j)))), (g2, .inl (cI, 4, .inl fcf)), (g3, .inl (cI, 192, .inl fpf))]) hD [12, 13, 14, 15, 16, 17, 18, 19, 20, 21, 22, 23, 24, 25, 26, 27, 0, 1, 2, 28, 3, 29, 4, 30, 5, 31, 6, 7, 8, 9, 10, 11] (by decide) rfl
      exact kk e_1 _ 0 f e_2 ld nc L cf pf vst vk vm vd _ _ H locs (Or.inl (HallN_mk cI cB cZ h0 0 f e_2 ld nc L cf pf vst vk vm vd a r0 k4 k5 k6 k7 e_15 e_16 e_17 e_18 e_19 e_20 e_21 e_22 m0 ms mw md oA oB ra a6 cu f0 g1 g2 g3 a3l a5t e_4 e_5 e_6 e_7 e_8 e_9 e_10 e_11 e_12 e_13 e_14 e_27 e_28 e_29 e_30 mf flA stA sA bA rrA recA flB stB sB bB rrB recB ran rr2 rr3 rr4 rt rpa lz can cts td lk fc FL fcf fpf (Nat.zero_le _) hq_39 hq_40 hgo hmk hM hsA hrA hmA hsB hrB hmB hrt hlz)) ⟨rfl, rfl, rfl, rfl, rfl, _, _, _, _, _, _, hx219_0, hx219_1, Or.inr ⟨hzr, rfl, rfl, rfl, rfl, rfl, rfl⟩⟩ hP hD hS
  · unfold HallE at hH
    obtain ⟨a, hH⟩ := hH
    obtain ⟨r0, hH⟩ := hH
    obtain ⟨k4, hH⟩ := hH
    obtain ⟨k5, hH⟩ := hH
    obtain ⟨k6, hH⟩ := hH
    obtain ⟨k7, hH⟩ := hH
    obtain ⟨p0, hH⟩ := hH
    obtain ⟨b1, hH⟩ := hH
    obtain ⟨b2, hH⟩ := hH
    obtain ⟨b3, hH⟩ := hH
    obtain ⟨d0, hH⟩ := hH
    obtain ⟨e1, hH⟩ := hH
    obtain ⟨e2, hH⟩ := hH
    obtain ⟨e3, hH⟩ := hH
    obtain ⟨m0, hH⟩ := hH
    obtain ⟨ms, hH⟩ := hH
    obtain ⟨mw, hH⟩ := hH
    obtain ⟨md, hH⟩ := hH
    obtain ⟨oA, hH⟩ := hH
    obtain ⟨oB, hH⟩ := hH
    obtain ⟨ra, hH⟩ := hH
    obtain ⟨a6, hH⟩ := hH
    obtain ⟨cu, hH⟩ := hH
    obtain ⟨f0, hH⟩ := hH
    obtain ⟨g1, hH⟩ := hH
    obtain ⟨g2, hH⟩ := hH
    obtain ⟨g3, hH⟩ := hH
    obtain ⟨a3l, hH⟩ := hH
    obtain ⟨a5t, hH⟩ := hH
    obtain ⟨pv, hH⟩ := hH
    obtain ⟨fv, hH⟩ := hH
    obtain ⟨lp, hH⟩ := hH
    obtain ⟨t, hH⟩ := hH
    obtain ⟨tl, hH⟩ := hH
    obtain ⟨vr, hH⟩ := hH
    obtain ⟨vl, hH⟩ := hH
    obtain ⟨Kd, hH⟩ := hH
    obtain ⟨sf, hH⟩ := hH
    obtain ⟨nf, hH⟩ := hH
    obtain ⟨Tk, hH⟩ := hH
    obtain ⟨ncd, hH⟩ := hH
    obtain ⟨Ld, hH⟩ := hH
    obtain ⟨cfd, hH⟩ := hH
    obtain ⟨pfd, hH⟩ := hH
    obtain ⟨mf, hH⟩ := hH
    obtain ⟨knA, hH⟩ := hH
    obtain ⟨flA, hH⟩ := hH
    obtain ⟨stA, hH⟩ := hH
    obtain ⟨sA, hH⟩ := hH
    obtain ⟨bA, hH⟩ := hH
    obtain ⟨rrA, hH⟩ := hH
    obtain ⟨recA, hH⟩ := hH
    obtain ⟨knB, hH⟩ := hH
    obtain ⟨flB, hH⟩ := hH
    obtain ⟨stB, hH⟩ := hH
    obtain ⟨sB, hH⟩ := hH
    obtain ⟨bB, hH⟩ := hH
    obtain ⟨rrB, hH⟩ := hH
    obtain ⟨recB, hH⟩ := hH
    obtain ⟨rkn, hH⟩ := hH
    obtain ⟨ran, hH⟩ := hH
    obtain ⟨rr2, hH⟩ := hH
    obtain ⟨rr3, hH⟩ := hH
    obtain ⟨rr4, hH⟩ := hH
    obtain ⟨rt, hH⟩ := hH
    obtain ⟨rpa, hH⟩ := hH
    obtain ⟨lz, hH⟩ := hH
    obtain ⟨can, hH⟩ := hH
    obtain ⟨cts, hH⟩ := hH
    obtain ⟨td, hH⟩ := hH
    obtain ⟨lk, hH⟩ := hH
    obtain ⟨fc, hH⟩ := hH
    obtain ⟨FL, hH⟩ := hH
    obtain ⟨fcf, hH⟩ := hH
    obtain ⟨fpf, hH⟩ := hH
    obtain ⟨x0, hH⟩ := hH
    obtain ⟨a2, hH⟩ := hH
    obtain ⟨s4, hH⟩ := hH
    obtain ⟨w4, hH⟩ := hH
    obtain ⟨s5, hH⟩ := hH
    obtain ⟨w5, hH⟩ := hH
    obtain ⟨a8, hH⟩ := hH
    obtain ⟨a9, hH⟩ := hH
    obtain ⟨a3, hH⟩ := hH
    obtain ⟨i0, hH⟩ := hH
    obtain ⟨i1, hH⟩ := hH
    obtain ⟨i6, hH⟩ := hH
    obtain ⟨a7, hH⟩ := hH
    obtain ⟨rl, hH⟩ := hH
    obtain ⟨rf, hH⟩ := hH
    obtain ⟨f4, hH⟩ := hH
    obtain ⟨f5, hH⟩ := hH
    obtain ⟨ef, hH⟩ := hH
    obtain ⟨sl, hH⟩ := hH
    obtain ⟨cm, hH⟩ := hH
    obtain ⟨pp, hH⟩ := hH
    obtain ⟨htz, hH⟩ := hH
    obtain ⟨hR, hH⟩ := hH
    obtain ⟨hTk, hH⟩ := hH
    obtain ⟨hgo, hH⟩ := hH
    obtain ⟨hmk, hH⟩ := hH
    obtain ⟨hM, hH⟩ := hH
    obtain ⟨hsA, hH⟩ := hH
    obtain ⟨hrA, hH⟩ := hH
    obtain ⟨hmA, hH⟩ := hH
    obtain ⟨hsB, hH⟩ := hH
    obtain ⟨hrB, hH⟩ := hH
    obtain ⟨hmB, hH⟩ := hH
    obtain ⟨hrt, hH⟩ := hH
    obtain ⟨hlz, hH⟩ := hH
    obtain ⟨hrl, hH⟩ := hH
    obtain ⟨hrm, hH⟩ := hH
    obtain ⟨rfl, rfl, rfl⟩ := hH
    obtain ⟨hc, hL6, hI5⟩ := id hgo
    have hL := gL6_8 hL6
    have hI := gG_up (b' := 7) hI5 (by decide)
    have hkb := gq_k hmA hmB hrm.2
    refine gq_goi (wc := [(h0, .inr (8, [.ref a, .int (nI tz), .ref r0, .int fp, .int ld, .ref p0, .ref m0, .ref x0, .ref oA, .ref oB, .ref ra, .ref cu])), (a, .inl (cB, 4000, .inl f)), (r0, .inr (6, [.ref d0, .int pv, .int fv, .int lp, .ref k4, .ref k5, .ref k6, .ref k7, .int (nI t), .int tl, .int vr, .int vl])), (k4, .inl (cI, 501, .inl (fun j => nI (Kd j)))), (k5, .inl (cI, 501, .inl sf)), (k6, .inl (cI, 501, .inl nf)), (k7, .inl (cI, 6, .inl (fun j => nI (Tk j)))), (p0, .inr (4, [.int (nI nc), .ref b1, .ref b2, .ref b3])), (b1, .inl (cI, 3, .inl (fun j => nI (L j)))), (b2, .inl (cI, 4, .inl cf)), (b3, .inl (cI, 192, .inl pf)), (d0, .inr (4, [.int (nI ncd), .ref e1, .ref e2, .ref e3])), (e1, .inl (cI, 3, .inl (fun j => nI (Ld j)))), (e2, .inl (cI, 4, .inl cfd)), (e3, .inl (cI, 192, .inl pfd)), (m0, .inr (3, [.ref ms, .int vst, .int (nI vk), .int vm, .ref md])), (oA, .inr (2, [.int knA, .int flA, .int (nI stA), .int (nI sA), .ref bA])), (oB, .inr (2, [.int knB, .int flB, .int (nI stB), .int (nI sB), .ref bB])), (ra, .inr (5, [.int rkn, .int ran, .int rr2, .int rr3, .int rr4, .int (nI rt), .ref a6])), (cu, .inr (0, [.ref f0, .int (nI lz), .int can, .ref a3l, .int cts, .ref a5t]))]) (wr := [(ms, .inr (7, [.ref mw])), (mw, .inl (cI, 34, .inl mf)), (md, .inl (cI, 38, .inl vd)), (bA, .inl (cI, rrA, .inl recA)), (bB, .inl (cI, rrB, .inl recB)), (a6, .inl (cI, 38, .inl rpa)), (a3l, .inl (cI, 2, .inl lk)), (a5t, .inl (cI, 2, .inl td)), (f0, .inr (4, [.int fc, .ref g1, .ref g2, .ref g3])), (g1, .inl (cI, 3, .inl (fun j => nI (FL j)))), (g2, .inl (cI, 4, .inl fcf)), (g3, .inl (cI, 192, .inl fpf)), (x0, .inr (1, [.int i0, .int i1, .ref a2, .ref a3, .ref s4, .ref s5, .int i6, .ref a7, .ref a8, .ref a9])), (s4, .inr (7, [.ref w4])), (w4, .inl (cI, 34, .inl f4)), (s5, .inr (7, [.ref w5])), (w5, .inl (cI, 34, .inl f5)), (a2, .inl (cI, 3000, .inl ef)), (a7, .inl (cI, rl, .inl rf)), (a8, .inl (cI, 4096, .inl sl)), (a9, .inl (cI, 3000, .inl cm)), (a3, .inl (cI, 38, .inl pp))]) (va_runV (As := []) (rest := []) ⟨hx, hb, hml, hown, hts⟩ (x_read8 l D cI cB cZ K h0 a r0 k4 k5 k6 k7 m0 oA oB ra cu p0 b1 b2 b3 d0 e1 e2 e3 (.ref x0) (.ref ms) (.int (nI vk)) (.int vm) (.ref md) (.int flA) (.int (nI stA)) (.int (nI sA)) (.ref bA) (.int flB) (.int (nI stB)) (.int (nI sB)) (.ref bB) (.int ran) (.int rr2) (.int rr3) (.int rr4) (.int (nI rt)) (.ref a6) (.ref f0) (.ref a3l) (.int cts) (.ref a5t) f tz fp ld pv fv lp t tl vr vl Kd sf nf Tk nc L cf pf ncd Ld cfd pfd vst knA knB rkn (nI lz) can htz hR hTk hgo _) (cwV 0 hts gP_law__x_read8 rfl rfl rfl (by decide +kernel) ⟨Nat.le_of_ble_eq_true rfl, Nat.le_of_ble_eq_true rfl⟩) (ge_preV (ci := 8) (q0 := 0) hE hS hA hK gN.nil (gq_Pl hP) (gq_Dl hD) [0, 1, 2, 3, 4, 5, 6, 7, 8, 9, 10, 11, 12, 13, 14, 15, 19, 21, 23, 25] rfl rfl rfl rfl) rfl rfl hl.1 rfl (lv_room (Nat.le_of_ble_eq_true rfl)) dL_law_219 ⟨(Nat.le_trans (Nat.add_le_add_right hkb.1 _) (Nat.le_of_ble_eq_true rfl)), (Nat.le_trans (Nat.add_le_add_right hkb.2 _) (Nat.le_of_ble_eq_true rfl))⟩) hP hD hS hA [0, 1, 2, 3, 4, 5, 6, 7, 8, 9, 10, 11, 12, 13, 14, 15, 19, 21, 23, 25] [16, 17, 18, 20, 22, 24, 26, 27, 28, 29, 30, 31, 32, 33, 34, 35, 36, 37, 38, 39, 40, 41] rfl rfl rfl (by decide) (fun r1 w1 H locs hp hP hD hS => ?_)
    obtain ⟨e_1, hp⟩ := hp
    obtain ⟨e_2, hp⟩ := hp
    obtain ⟨e_3, hp⟩ := hp
    obtain ⟨e_4, hp⟩ := hp
    obtain ⟨e_5, hp⟩ := hp
    obtain ⟨e_6, hp⟩ := hp
    obtain ⟨e_7, hp⟩ := hp
    obtain ⟨e_8, hp⟩ := hp
    obtain ⟨e_9, hp⟩ := hp
    obtain ⟨e_10, hp⟩ := hp
    obtain ⟨e_11, hp⟩ := hp
    obtain ⟨e_12, hp⟩ := hp
    obtain ⟨e_13, hp⟩ := hp
    obtain ⟨e_14, hp⟩ := hp
    obtain ⟨e_15, hp⟩ := hp
    obtain ⟨e_16, hp⟩ := hp
    obtain ⟨e_17, hp⟩ := hp
    obtain ⟨e_18, hp⟩ := hp
    obtain ⟨e_19, hp⟩ := hp
    obtain ⟨e_20, hp⟩ := hp
    obtain ⟨e_21, hp⟩ := hp
    obtain ⟨e_22, hp⟩ := hp
    obtain ⟨e_23, hp⟩ := hp
    obtain ⟨e_24, hp⟩ := hp
    obtain ⟨e_25, hp⟩ := hp
    obtain ⟨e_26, hp⟩ := hp
    obtain ⟨e_27, hp⟩ := hp
    obtain ⟨e_28, hp⟩ := hp
    obtain ⟨e_29, hp⟩ := hp
    obtain ⟨e_30, hp⟩ := hp
    obtain ⟨e_31, hp⟩ := hp
    obtain ⟨e_32, hp⟩ := hp
    obtain ⟨e_33, hp⟩ := hp
    obtain ⟨e_34, hp⟩ := hp
    obtain ⟨e_35, hp⟩ := hp
    obtain ⟨e_36, hp⟩ := hp
    obtain ⟨e_37, hp⟩ := hp
    obtain ⟨hq_38, hp⟩ := hp
    obtain ⟨hq_39, hp⟩ := hp
    obtain ⟨hq_40, hp⟩ := hp
    obtain ⟨hq_41, hp⟩ := hp
    obtain ⟨hx219_0, hp⟩ := hp
    obtain ⟨hx219_1, hp⟩ := hp
    obtain ⟨hx219_2, hp⟩ := hp
    obtain ⟨h9, hp⟩ := hp
    subst hp
    have h9 := h9.symm
    subst h9
    have hq_38 : e_23 ≤ 3 ∧ (∀ j, j < 3 → e_24 j ≤ 6) ∧ gG e_24 e_26 5 := hq_38
    have hq_39 : gRdI e_11 e_13 e_12 := hq_39
    have hq_40 : ∀ j, j < 6 → e_14 j ≤ 500 := hq_40
    have hq_41 : (e_23 = nc ∧ e_24 = L ∧ e_25 = cf ∧ e_26 = pf ∧ e_3 = ld ∧ e_31 = vst ∧ e_32 = knA ∧ e_33 = knB ∧ e_34 = rkn ∧ e_35 = (nI lz) ∧ e_36 = can) ∨ (e_31 = 0 ∧ e_32 = 0 ∧ e_33 = 0 ∧ e_34 = 0 ∧ e_35 = 0 ∧ e_36 = (-1)) := hq_41
    have hx219_0 : gTS f tz e_11 e_12 e_13 e_37 := hx219_0
    have hx219_1 : rRes (rTx e_11 e_12 e_13 pfd Tk) e_12 e_1 e_2 := hx219_1
    have hx219_2 : (e_1 = 0 ∧ e_3 = 1 ∧ rPrg (rTx e_11 e_12 e_13 pfd Tk) e_23 e_26 e_24 e_25 ∧ (e_31 = 0 ∧ e_32 = 0 ∧ e_33 = 0 ∧ e_34 = 0 ∧ e_35 = 0 ∧ e_36 = (-1))) ∨ (¬ e_1 = 0 ∧ (e_23 = nc ∧ e_24 = L ∧ e_25 = cf ∧ e_26 = pf ∧ e_3 = ld ∧ e_31 = vst ∧ e_32 = knA ∧ e_33 = knB ∧ e_34 = rkn ∧ e_35 = (nI lz) ∧ e_36 = can)) := hx219_2
    have hP : va_P D vwCl ([(ms, .inr (7, [.ref mw])), (mw, .inl (cI, 34, .inl mf)), (md, .inl (cI, 38, .inl vd)), (bA, .inl (cI, rrA, .inl recA)), (bB, .inl (cI, rrB, .inl recB)), (a6, .inl (cI, 38, .inl rpa)), (a3l, .inl (cI, 2, .inl lk)), (a5t, .inl (cI, 2, .inl td)), (f0, .inr (4, [.int fc, .ref g1, .ref g2, .ref g3])), (g1, .inl (cI, 3, .inl (fun j => nI (FL j)))), (g2, .inl (cI, 4, .inl fcf)), (g3, .inl (cI, 192, .inl fpf)), (x0, .inr (1, [.int i0, .int i1, .ref a2, .ref a3, .ref s4, .ref s5, .int i6, .ref a7, .ref a8, .ref a9])), (s4, .inr (7, [.ref w4])), (w4, .inl (cI, 34, .inl f4)), (s5, .inr (7, [.ref w5])), (w5, .inl (cI, 34, .inl f5)), (a2, .inl (cI, 3000, .inl ef)), (a7, .inl (cI, rl, .inl rf)), (a8, .inl (cI, 4096, .inl sl)), (a9, .inl (cI, 3000, .inl cm)), (a3, .inl (cI, 38, .inl pp)), (h0, .inr (8, [.ref a, .int 0, .ref r0, .int e_2, .int e_3, .ref e_15, .ref m0, .ref x0, .ref oA, .ref oB, .ref ra, .ref cu])), (a, .inl (cB, 4000, .inl f)), (r0, .inr (6, [.ref e_19, .int e_4, .int e_5, .int e_6, .ref k4, .ref k5, .ref k6, .ref k7, .int (nI e_7), .int e_8, .int e_9, .int e_10])), (k4, .inl (cI, 501, .inl (fun j => nI (e_11 j)))), (k5, .inl (cI, 501, .inl e_12)), (k6, .inl (cI, 501, .inl e_13)), (k7, .inl (cI, 6, .inl (fun j => nI (e_14 j)))), (e_15, .inr (4, [.int (nI e_23), .ref e_16, .ref e_17, .ref e_18])), (e_16, .inl (cI, 3, .inl (fun j => nI (e_24 j)))), (e_17, .inl (cI, 4, .inl e_25)), (e_18, .inl (cI, 192, .inl e_26)), (e_19, .inr (4, [.int (nI e_27), .ref e_20, .ref e_21, .ref e_22])), (e_20, .inl (cI, 3, .inl (fun j => nI (e_28 j)))), (e_21, .inl (cI, 4, .inl e_29)), (e_22, .inl (cI, 192, .inl e_30)), (m0, .inr (3, [.ref ms, .int e_31, .int (nI vk), .int vm, .ref md])), (oA, .inr (2, [.int e_32, .int flA, .int (nI stA), .int (nI sA), .ref bA])), (oB, .inr (2, [.int e_33, .int flB, .int (nI stB), .int (nI sB), .ref bB])), (ra, .inr (5, [.int e_34, .int ran, .int rr2, .int rr3, .int rr4, .int (nI rt), .ref a6])), (cu, .inr (0, [.ref f0, .int e_35, .int e_36, .ref a3l, .int cts, .ref a5t]))] ++ w9) H := hP
    have hD : va_D A ([(ms, .inr (7, [.ref mw])), (mw, .inl (cI, 34, .inl mf)), (md, .inl (cI, 38, .inl vd)), (bA, .inl (cI, rrA, .inl recA)), (bB, .inl (cI, rrB, .inl recB)), (a6, .inl (cI, 38, .inl rpa)), (a3l, .inl (cI, 2, .inl lk)), (a5t, .inl (cI, 2, .inl td)), (f0, .inr (4, [.int fc, .ref g1, .ref g2, .ref g3])), (g1, .inl (cI, 3, .inl (fun j => nI (FL j)))), (g2, .inl (cI, 4, .inl fcf)), (g3, .inl (cI, 192, .inl fpf)), (x0, .inr (1, [.int i0, .int i1, .ref a2, .ref a3, .ref s4, .ref s5, .int i6, .ref a7, .ref a8, .ref a9])), (s4, .inr (7, [.ref w4])), (w4, .inl (cI, 34, .inl f4)), (s5, .inr (7, [.ref w5])), (w5, .inl (cI, 34, .inl f5)), (a2, .inl (cI, 3000, .inl ef)), (a7, .inl (cI, rl, .inl rf)), (a8, .inl (cI, 4096, .inl sl)), (a9, .inl (cI, 3000, .inl cm)), (a3, .inl (cI, 38, .inl pp)), (h0, .inr (8, [.ref a, .int 0, .ref r0, .int e_2, .int e_3, .ref e_15, .ref m0, .ref x0, .ref oA, .ref oB, .ref ra, .ref cu])), (a, .inl (cB, 4000, .inl f)), (r0, .inr (6, [.ref e_19, .int e_4, .int e_5, .int e_6, .ref k4, .ref k5, .ref k6, .ref k7, .int (nI e_7), .int e_8, .int e_9, .int e_10])), (k4, .inl (cI, 501, .inl (fun j => nI (e_11 j)))), (k5, .inl (cI, 501, .inl e_12)), (k6, .inl (cI, 501, .inl e_13)), (k7, .inl (cI, 6, .inl (fun j => nI (e_14 j)))), (e_15, .inr (4, [.int (nI e_23), .ref e_16, .ref e_17, .ref e_18])), (e_16, .inl (cI, 3, .inl (fun j => nI (e_24 j)))), (e_17, .inl (cI, 4, .inl e_25)), (e_18, .inl (cI, 192, .inl e_26)), (e_19, .inr (4, [.int (nI e_27), .ref e_20, .ref e_21, .ref e_22])), (e_20, .inl (cI, 3, .inl (fun j => nI (e_28 j)))), (e_21, .inl (cI, 4, .inl e_29)), (e_22, .inl (cI, 192, .inl e_30)), (m0, .inr (3, [.ref ms, .int e_31, .int (nI vk), .int vm, .ref md])), (oA, .inr (2, [.int e_32, .int flA, .int (nI stA), .int (nI sA), .ref bA])), (oB, .inr (2, [.int e_33, .int flB, .int (nI stB), .int (nI sB), .ref bB])), (ra, .inr (5, [.int e_34, .int ran, .int rr2, .int rr3, .int rr4, .int (nI rt), .ref a6])), (cu, .inr (0, [.ref f0, .int e_35, .int e_36, .ref a3l, .int cts, .ref a5t]))] ++ w9) := hD
    refine W.widen (k := 63 + (rrA / 17) + (rrB / 17) + 10 + ((rl - 1600) / 4800)) (n := 584682 + (2 * rrA + 51000 * (rrA / 51000)) + (2 * rrB + 51000 * (rrB / 51000)) + 11814 + (2 * (rl - 1600))) (Nat.le_refl _) (Nat.le_refl _) ?_
    rcases hx219_2 with hX | hX
    · obtain ⟨hzr, q_0, hpg, q_1, q_2, q_3, q_4, q_5, q_6⟩ := hX
      have q_0 := q_0.symm; subst q_0
      have q_1 := q_1.symm; subst q_1
      have q_2 := q_2.symm; subst q_2
      have q_3 := q_3.symm; subst q_3
      have q_4 := q_4.symm; subst q_4
      have q_5 := q_5.symm; subst q_5
      have q_6 := q_6.symm; subst q_6
      have hP : va_P D vwCl ([(ms, .inr (7, [.ref mw])), (mw, .inl (cI, 34, .inl mf)), (md, .inl (cI, 38, .inl vd)), (bA, .inl (cI, rrA, .inl recA)), (bB, .inl (cI, rrB, .inl recB)), (a6, .inl (cI, 38, .inl rpa)), (a3l, .inl (cI, 2, .inl lk)), (a5t, .inl (cI, 2, .inl td)), (f0, .inr (4, [.int fc, .ref g1, .ref g2, .ref g3])), (g1, .inl (cI, 3, .inl (fun j => nI (FL j)))), (g2, .inl (cI, 4, .inl fcf)), (g3, .inl (cI, 192, .inl fpf)), (x0, .inr (1, [.int i0, .int i1, .ref a2, .ref a3, .ref s4, .ref s5, .int i6, .ref a7, .ref a8, .ref a9])), (s4, .inr (7, [.ref w4])), (w4, .inl (cI, 34, .inl f4)), (s5, .inr (7, [.ref w5])), (w5, .inl (cI, 34, .inl f5)), (a2, .inl (cI, 3000, .inl ef)), (a7, .inl (cI, rl, .inl rf)), (a8, .inl (cI, 4096, .inl sl)), (a9, .inl (cI, 3000, .inl cm)), (a3, .inl (cI, 38, .inl pp)), (h0, .inr (8, [.ref a, .int 0, .ref r0, .int e_2, .int 1, .ref e_15, .ref m0, .ref x0, .ref oA, .ref oB, .ref ra, .ref cu])), (a, .inl (cB, 4000, .inl f)), (r0, .inr (6, [.ref e_19, .int e_4, .int e_5, .int e_6, .ref k4, .ref k5, .ref k6, .ref k7, .int (nI e_7), .int e_8, .int e_9, .int e_10])), (k4, .inl (cI, 501, .inl (fun j => nI (e_11 j)))), (k5, .inl (cI, 501, .inl e_12)), (k6, .inl (cI, 501, .inl e_13)), (k7, .inl (cI, 6, .inl (fun j => nI (e_14 j)))), (e_15, .inr (4, [.int (nI e_23), .ref e_16, .ref e_17, .ref e_18])), (e_16, .inl (cI, 3, .inl (fun j => nI (e_24 j)))), (e_17, .inl (cI, 4, .inl e_25)), (e_18, .inl (cI, 192, .inl e_26)), (e_19, .inr (4, [.int (nI e_27), .ref e_20, .ref e_21, .ref e_22])), (e_20, .inl (cI, 3, .inl (fun j => nI (e_28 j)))), (e_21, .inl (cI, 4, .inl e_29)), (e_22, .inl (cI, 192, .inl e_30)), (m0, .inr (3, [.ref ms, .int 0, .int (nI vk), .int vm, .ref md])), (oA, .inr (2, [.int 0, .int flA, .int (nI stA), .int (nI sA), .ref bA])), (oB, .inr (2, [.int 0, .int flB, .int (nI stB), .int (nI sB), .ref bB])), (ra, .inr (5, [.int 0, .int ran, .int rr2, .int rr3, .int rr4, .int (nI rt), .ref a6])), (cu, .inr (0, [.ref f0, .int 0, .int (-1), .ref a3l, .int cts, .ref a5t]))] ++ w9) H := hP
      have hD : va_D A ([(ms, .inr (7, [.ref mw])), (mw, .inl (cI, 34, .inl mf)), (md, .inl (cI, 38, .inl vd)), (bA, .inl (cI, rrA, .inl recA)), (bB, .inl (cI, rrB, .inl recB)), (a6, .inl (cI, 38, .inl rpa)), (a3l, .inl (cI, 2, .inl lk)), (a5t, .inl (cI, 2, .inl td)), (f0, .inr (4, [.int fc, .ref g1, .ref g2, .ref g3])), (g1, .inl (cI, 3, .inl (fun j => nI (FL j)))), (g2, .inl (cI, 4, .inl fcf)), (g3, .inl (cI, 192, .inl fpf)), (x0, .inr (1, [.int i0, .int i1, .ref a2, .ref a3, .ref s4, .ref s5, .int i6, .ref a7, .ref a8, .ref a9])), (s4, .inr (7, [.ref w4])), (w4, .inl (cI, 34, .inl f4)), (s5, .inr (7, [.ref w5])), (w5, .inl (cI, 34, .inl f5)), (a2, .inl (cI, 3000, .inl ef)), (a7, .inl (cI, rl, .inl rf)), (a8, .inl (cI, 4096, .inl sl)), (a9, .inl (cI, 3000, .inl cm)), (a3, .inl (cI, 38, .inl pp)), (h0, .inr (8, [.ref a, .int 0, .ref r0, .int e_2, .int 1, .ref e_15, .ref m0, .ref x0, .ref oA, .ref oB, .ref ra, .ref cu])), (a, .inl (cB, 4000, .inl f)), (r0, .inr (6, [.ref e_19, .int e_4, .int e_5, .int e_6, .ref k4, .ref k5, .ref k6, .ref k7, .int (nI e_7), .int e_8, .int e_9, .int e_10])), (k4, .inl (cI, 501, .inl (fun j => nI (e_11 j)))), (k5, .inl (cI, 501, .inl e_12)), (k6, .inl (cI, 501, .inl e_13)), (k7, .inl (cI, 6, .inl (fun j => nI (e_14 j)))), (e_15, .inr (4, [.int (nI e_23), .ref e_16, .ref e_17, .ref e_18])), (e_16, .inl (cI, 3, .inl (fun j => nI (e_24 j)))), (e_17, .inl (cI, 4, .inl e_25)), (e_18, .inl (cI, 192, .inl e_26)), (e_19, .inr (4, [.int (nI e_27), .ref e_20, .ref e_21, .ref e_22])), (e_20, .inl (cI, 3, .inl (fun j => nI (e_28 j)))), (e_21, .inl (cI, 4, .inl e_29)), (e_22, .inl (cI, 192, .inl e_30)), (m0, .inr (3, [.ref ms, .int 0, .int (nI vk), .int vm, .ref md])), (oA, .inr (2, [.int 0, .int flA, .int (nI stA), .int (nI sA), .ref bA])), (oB, .inr (2, [.int 0, .int flB, .int (nI stB), .int (nI sB), .ref bB])), (ra, .inr (5, [.int 0, .int ran, .int rr2, .int rr3, .int rr4, .int (nI rt), .ref a6])), (cu, .inr (0, [.ref f0, .int 0, .int (-1), .ref a3l, .int cts, .ref a5t]))] ++ w9) := hD
      have hP := gq_subP (X' := [(h0, .inr (8, [.ref a, .int 0, .ref r0, .int e_2, .int 1, .ref e_15, .ref m0, .ref x0, .ref oA, .ref oB, .ref ra, .ref cu])), (a, .inl (cB, 4000, .inl f)), (r0, .inr (6, [.ref e_19, .int e_4, .int e_5, .int e_6, .ref k4, .ref k5, .ref k6, .ref k7, .int (nI e_7), .int e_8, .int e_9, .int e_10])), (k4, .inl (cI, 501, .inl (fun j => nI (e_11 j)))), (k5, .inl (cI, 501, .inl e_12)), (k6, .inl (cI, 501, .inl e_13)), (k7, .inl (cI, 6, .inl (fun j => nI (e_14 j)))), (e_15, .inr (4, [.int (nI e_23), .ref e_16, .ref e_17, .ref e_18])), (e_16, .inl (cI, 3, .inl (fun j => nI (e_24 j)))), (e_17, .inl (cI, 4, .inl e_25)), (e_18, .inl (cI, 192, .inl e_26)), (e_19, .inr (4, [.int (nI e_27), .ref e_20, .ref e_21, .ref e_22])), (e_20, .inl (cI, 3, .inl (fun j => nI (e_28 j)))), (e_21, .inl (cI, 4, .inl e_29)), (e_22, .inl (cI, 192, .inl e_30)), (m0, .inr (3, [.ref ms, .int 0, .int (nI vk), .int vm, .ref md])), (ms, .inr (7, [.ref mw])), (mw, .inl (cI, 34, .inl mf)), (md, .inl (cI, 38, .inl vd)), (oA, .inr (2, [.int 0, .int flA, .int (nI stA), .int (nI sA), .ref bA])), (bA, .inl (cI, rrA, .inl recA)), (oB, .inr (2, [.int 0, .int flB, .int (nI stB), .int (nI sB), .ref bB])), (bB, .inl (cI, rrB, .inl recB)), (ra, .inr (5, [.int 0, .int ran, .int rr2, .int rr3, .int rr4, .int (nI rt), .ref a6])), (a6, .inl (cI, 38, .inl rpa)), (cu, .inr (0, [.ref f0, .int 0, .int (-1), .ref a3l, .int cts, .ref a5t])), (a3l, .inl (cI, 2, .inl lk)), (a5t, .inl (cI, 2, .inl td)), (f0, .inr (4, [.int fc, .ref g1, .ref g2, .ref g3])), (g1, .inl (cI, 3, .inl (fun j => nI (FL j)))), (g2, .inl (cI, 4, .inl fcf)), (g3, .inl (cI, 192, .inl fpf)), (x0, .inr (1, [.int i0, .int i1, .ref a2, .ref a3, .ref s4, .ref s5, .int i6, .ref a7, .ref a8, .ref a9])), (s4, .inr (7, [.ref w4])), (w4, .inl (cI, 34, .inl f4)), (s5, .inr (7, [.ref w5])), (w5, .inl (cI, 34, .inl f5)), (a2, .inl (cI, 3000, .inl ef)), (a7, .inl (cI, rl, .inl rf)), (a8, .inl (cI, 4096, .inl sl)), (a9, .inl (cI, 3000, .inl cm)), (a3, .inl (cI, 38, .inl pp))]) hP [22, 23, 24, 25, 26, 27, 28, 29, 30, 31, 32, 33, 34, 35, 36, 37, 0, 1, 2, 38, 3, 39, 4, 40, 5, 41, 6, 7, 8, 9, 10, 11, 12, 13, 14, 15, 16, 17, 18, 19, 20, 21] rfl
      have hD := gq_subD (X' := [(h0, .inr (8, [.ref a, .int 0, .ref r0, .int e_2, .int 1, .ref e_15, .ref m0, .ref x0, .ref oA, .ref oB, .ref ra, .ref cu])), (a, .inl (cB, 4000, .inl f)), (r0, .inr (6, [.ref e_19, .int e_4, .int e_5, .int e_6, .ref k4, .ref k5, .ref k6, .ref k7, .int (nI e_7), .int e_8, .int e_9, .int e_10])), (k4, .inl (cI, 501, .inl (fun j => nI (e_11 j)))), (k5, .inl (cI, 501, .inl e_12)), (k6, .inl (cI, 501, .inl e_13)), (k7, .inl (cI, 6, .inl (fun j => nI (e_14 j)))), (e_15, .inr (4, [.int (nI e_23), .ref e_16, .ref e_17, .ref e_18])), (e_16, .inl (cI, 3, .inl (fun j => nI (e_24 j)))), (e_17, .inl (cI, 4, .inl e_25)), (e_18, .inl (cI, 192, .inl e_26)), (e_19, .inr (4, [.int (nI e_27), .ref e_20, .ref e_21, .ref e_22])), (e_20, .inl (cI, 3, .inl (fun j => nI (e_28 j)))), (e_21, .inl (cI, 4, .inl e_29)), (e_22, .inl (cI, 192, .inl e_30)), (m0, .inr (3, [.ref ms, .int 0, .int (nI vk), .int vm, .ref md])), (ms, .inr (7, [.ref mw])), (mw, .inl (cI, 34, .inl mf)), (md, .inl (cI, 38, .inl vd)), (oA, .inr (2, [.int 0, .int flA, .int (nI stA), .int (nI sA), .ref bA])), (bA, .inl (cI, rrA, .inl recA)), (oB, .inr (2, [.int 0, .int flB, .int (nI stB), .int (nI sB), .ref bB])), (bB, .inl (cI, rrB, .inl recB)), (ra, .inr (5, [.int 0, .int ran, .int rr2, .int rr3, .int rr4, .int (nI rt), .ref a6])), (a6, .inl (cI, 38, .inl rpa)), (cu, .inr (0, [.ref f0, .int 0, .int (-1), .ref a3l, .int cts, .ref a5t])), (a3l, .inl (cI, 2, .inl lk)), (a5t, .inl (cI, 2, .inl td)), (f0, .inr (4, [.int fc, .ref g1, .ref g2, .ref g3])), (g1, .inl (cI, 3, .inl (fun j => nI (FL j)))), (g2, .inl (cI, 4, .inl fcf)), (g3, .inl (cI, 192, .inl fpf)), (x0, .inr (1, [.int i0, .int i1, .ref a2, .ref a3, .ref s4, .ref s5, .int i6, .ref a7, .ref a8, .ref a9])), (s4, .inr (7, [.ref w4])), (w4, .inl (cI, 34, .inl f4)), (s5, .inr (7, [.ref w5])), (w5, .inl (cI, 34, .inl f5)), (a2, .inl (cI, 3000, .inl ef)), (a7, .inl (cI, rl, .inl rf)), (a8, .inl (cI, 4096, .inl sl)), (a9, .inl (cI, 3000, .inl cm)), (a3, .inl (cI, 38, .inl pp))]) hD [22, 23, 24, 25, 26, 27, 28, 29, 30, 31, 32, 33, 34, 35, 36, 37, 0, 1, 2, 38, 3, 39, 4, 40, 5, 41, 6, 7, 8, 9, 10, 11, 12, 13, 14, 15, 16, 17, 18, 19, 20, 21] (by decide) rfl
      exact kk e_1 _ 0 f e_2 1 e_23 e_24 e_25 e_26 0 vk vm vd _ _ H locs (Or.inr (HallE_mk cI cB cZ h0 0 f e_2 1 e_23 e_24 e_25 e_26 0 vk vm vd a r0 k4 k5 k6 k7 e_15 e_16 e_17 e_18 e_19 e_20 e_21 e_22 m0 ms mw md oA oB ra a6 cu f0 g1 g2 g3 a3l a5t e_4 e_5 e_6 e_7 e_8 e_9 e_10 e_11 e_12 e_13 e_14 e_27 e_28 e_29 e_30 mf 0 flA stA sA bA rrA recA 0 flB stB sB bB rrB recB 0 ran rr2 rr3 rr4 rt rpa 0 (-1) cts td lk fc FL fcf fpf x0 a2 s4 w4 s5 w5 a8 a9 a3 i0 i1 i6 a7 rl rf f4 f5 ef sl cm pp (Nat.zero_le _) hq_39 hq_40 hq_38 hmk (Or.inl rfl) hsA hrA hmA hsB hrB hmB hrt (Nat.zero_le _) hrl hrm)) ⟨rfl, rfl, rfl, rfl, rfl, _, _, _, _, _, _, hx219_0, hx219_1, Or.inl ⟨hzr, rfl, hpg, rfl⟩⟩ hP hD hS
    · obtain ⟨hzr, q_0, q_1, q_2, q_3, q_4, q_5, q_6, q_7, q_8, q_9, q_10⟩ := hX
      have q_0 := q_0.symm; subst q_0
      have q_1 := q_1.symm; subst q_1
      have q_2 := q_2.symm; subst q_2
      have q_3 := q_3.symm; subst q_3
      have q_4 := q_4.symm; subst q_4
      have q_5 := q_5.symm; subst q_5
      have q_6 := q_6.symm; subst q_6
      have q_7 := q_7.symm; subst q_7
      have q_8 := q_8.symm; subst q_8
      have q_9 := q_9.symm; subst q_9
      have q_10 := q_10.symm; subst q_10
      have hP : va_P D vwCl ([(ms, .inr (7, [.ref mw])), (mw, .inl (cI, 34, .inl mf)), (md, .inl (cI, 38, .inl vd)), (bA, .inl (cI, rrA, .inl recA)), (bB, .inl (cI, rrB, .inl recB)), (a6, .inl (cI, 38, .inl rpa)), (a3l, .inl (cI, 2, .inl lk)), (a5t, .inl (cI, 2, .inl td)), (f0, .inr (4, [.int fc, .ref g1, .ref g2, .ref g3])), (g1, .inl (cI, 3, .inl (fun j => nI (FL j)))), (g2, .inl (cI, 4, .inl fcf)), (g3, .inl (cI, 192, .inl fpf)), (x0, .inr (1, [.int i0, .int i1, .ref a2, .ref a3, .ref s4, .ref s5, .int i6, .ref a7, .ref a8, .ref a9])), (s4, .inr (7, [.ref w4])), (w4, .inl (cI, 34, .inl f4)), (s5, .inr (7, [.ref w5])), (w5, .inl (cI, 34, .inl f5)), (a2, .inl (cI, 3000, .inl ef)), (a7, .inl (cI, rl, .inl rf)), (a8, .inl (cI, 4096, .inl sl)), (a9, .inl (cI, 3000, .inl cm)), (a3, .inl (cI, 38, .inl pp)), (h0, .inr (8, [.ref a, .int 0, .ref r0, .int e_2, .int ld, .ref e_15, .ref m0, .ref x0, .ref oA, .ref oB, .ref ra, .ref cu])), (a, .inl (cB, 4000, .inl f)), (r0, .inr (6, [.ref e_19, .int e_4, .int e_5, .int e_6, .ref k4, .ref k5, .ref k6, .ref k7, .int (nI e_7), .int e_8, .int e_9, .int e_10])), (k4, .inl (cI, 501, .inl (fun j => nI (e_11 j)))), (k5, .inl (cI, 501, .inl e_12)), (k6, .inl (cI, 501, .inl e_13)), (k7, .inl (cI, 6, .inl (fun j => nI (e_14 j)))), (e_15, .inr (4, [.int (nI nc), .ref e_16, .ref e_17, .ref e_18])), (e_16, .inl (cI, 3, .inl (fun j => nI (L j)))), (e_17, .inl (cI, 4, .inl cf)), (e_18, .inl (cI, 192, .inl pf)), (e_19, .inr (4, [.int (nI e_27), .ref e_20, .ref e_21, .ref e_22])), (e_20, .inl (cI, 3, .inl (fun j => nI (e_28 j)))), (e_21, .inl (cI, 4, .inl e_29)), (e_22, .inl (cI, 192, .inl e_30)), (m0, .inr (3, [.ref ms, .int vst, .int (nI vk), .int vm, .ref md])), (oA, .inr (2, [.int knA, .int flA, .int (nI stA), .int (nI sA), .ref bA])), (oB, .inr (2, [.int knB, .int flB, .int (nI stB), .int (nI sB), .ref bB])), (ra, .inr (5, [.int rkn, .int ran, .int rr2, .int rr3, .int rr4, .int (nI rt), .ref a6])), (cu, .inr (0, [.ref f0, .int (nI lz), .int can, .ref a3l, .int cts, .ref a5t]))] ++ w9) H := hP
      have hD : va_D A ([(ms, .inr (7, [.ref mw])), (mw, .inl (cI, 34, .inl mf)), (md, .inl (cI, 38, .inl vd)), (bA, .inl (cI, rrA, .inl recA)), (bB, .inl (cI, rrB, .inl recB)), (a6, .inl (cI, 38, .inl rpa)), (a3l, .inl (cI, 2, .inl lk)), (a5t, .inl (cI, 2, .inl td)), (f0, .inr (4, [.int fc, .ref g1, .ref g2, .ref g3])), (g1, .inl (cI, 3, .inl (fun j => nI (FL j)))), (g2, .inl (cI, 4, .inl fcf)), (g3, .inl (cI, 192, .inl fpf)), (x0, .inr (1, [.int i0, .int i1, .ref a2, .ref a3, .ref s4, .ref s5, .int i6, .ref a7, .ref a8, .ref a9])), (s4, .inr (7, [.ref w4])), (w4, .inl (cI, 34, .inl f4)), (s5, .inr (7, [.ref w5])), (w5, .inl (cI, 34, .inl f5)), (a2, .inl (cI, 3000, .inl ef)), (a7, .inl (cI, rl, .inl rf)), (a8, .inl (cI, 4096, .inl sl)), (a9, .inl (cI, 3000, .inl cm)), (a3, .inl (cI, 38, .inl pp)), (h0, .inr (8, [.ref a, .int 0, .ref r0, .int e_2, .int ld, .ref e_15, .ref m0, .ref x0, .ref oA, .ref oB, .ref ra, .ref cu])), (a, .inl (cB, 4000, .inl f)), (r0, .inr (6, [.ref e_19, .int e_4, .int e_5, .int e_6, .ref k4, .ref k5, .ref k6, .ref k7, .int (nI e_7), .int e_8, .int e_9, .int e_10])), (k4, .inl (cI, 501, .inl (fun j => nI (e_11 j)))), (k5, .inl (cI, 501, .inl e_12)), (k6, .inl (cI, 501, .inl e_13)), (k7, .inl (cI, 6, .inl (fun j => nI (e_14 j)))), (e_15, .inr (4, [.int (nI nc), .ref e_16, .ref e_17, .ref e_18])), (e_16, .inl (cI, 3, .inl (fun j => nI (L j)))), (e_17, .inl (cI, 4, .inl cf)), (e_18, .inl (cI, 192, .inl pf)), (e_19, .inr (4, [.int (nI e_27), .ref e_20, .ref e_21, .ref e_22])), (e_20, .inl (cI, 3, .inl (fun j => nI (e_28 j)))), (e_21, .inl (cI, 4, .inl e_29)), (e_22, .inl (cI, 192, .inl e_30)), (m0, .inr (3, [.ref ms, .int vst, .int (nI vk), .int vm, .ref md])), (oA, .inr (2, [.int knA, .int flA, .int (nI stA), .int (nI sA), .ref bA])), (oB, .inr (2, [.int knB, .int flB, .int (nI stB), .int (nI sB), .ref bB])), (ra, .inr (5, [.int rkn, .int ran, .int rr2, .int rr3, .int rr4, .int (nI rt), .ref a6])), (cu, .inr (0, [.ref f0, .int (nI lz), .int can, .ref a3l, .int cts, .ref a5t]))] ++ w9) := hD
      have hP := gq_subP (X' := [(h0, .inr (8, [.ref a, .int 0, .ref r0, .int e_2, .int ld, .ref e_15, .ref m0, .ref x0, .ref oA, .ref oB, .ref ra, .ref cu])), (a, .inl (cB, 4000, .inl f)), (r0, .inr (6, [.ref e_19, .int e_4, .int e_5, .int e_6, .ref k4, .ref k5, .ref k6, .ref k7, .int (nI e_7), .int e_8, .int e_9, .int e_10])), (k4, .inl (cI, 501, .inl (fun j => nI (e_11 j)))), (k5, .inl (cI, 501, .inl e_12)), (k6, .inl (cI, 501, .inl e_13)), (k7, .inl (cI, 6, .inl (fun j => nI (e_14 j)))), (e_15, .inr (4, [.int (nI nc), .ref e_16, .ref e_17, .ref e_18])), (e_16, .inl (cI, 3, .inl (fun j => nI (L j)))), (e_17, .inl (cI, 4, .inl cf)), (e_18, .inl (cI, 192, .inl pf)), (e_19, .inr (4, [.int (nI e_27), .ref e_20, .ref e_21, .ref e_22])), (e_20, .inl (cI, 3, .inl (fun j => nI (e_28 j)))), (e_21, .inl (cI, 4, .inl e_29)), (e_22, .inl (cI, 192, .inl e_30)), (m0, .inr (3, [.ref ms, .int vst, .int (nI vk), .int vm, .ref md])), (ms, .inr (7, [.ref mw])), (mw, .inl (cI, 34, .inl mf)), (md, .inl (cI, 38, .inl vd)), (oA, .inr (2, [.int knA, .int flA, .int (nI stA), .int (nI sA), .ref bA])), (bA, .inl (cI, rrA, .inl recA)), (oB, .inr (2, [.int knB, .int flB, .int (nI stB), .int (nI sB), .ref bB])), (bB, .inl (cI, rrB, .inl recB)), (ra, .inr (5, [.int rkn, .int ran, .int rr2, .int rr3, .int rr4, .int (nI rt), .ref a6])), (a6, .inl (cI, 38, .inl rpa)), (cu, .inr (0, [.ref f0, .int (nI lz), .int can, .ref a3l, .int cts, .ref a5t])), (a3l, .inl (cI, 2, .inl lk)), (a5t, .inl (cI, 2, .inl td)), (f0, .inr (4, [.int fc, .ref g1, .ref g2, .ref g3])), (g1, .inl (cI, 3, .inl (fun j => nI (FL j)))), (g2, .inl (cI, 4, .inl fcf)), (g3, .inl (cI, 192, .inl fpf)), (x0, .inr (1, [.int i0, .int i1, .ref a2, .ref a3, .ref s4, .ref s5, .int i6, .ref a7, .ref a8, .ref a9])), (s4, .inr (7, [.ref w4])), (w4, .inl (cI, 34, .inl f4)), (s5, .inr (7, [.ref w5])), (w5, .inl (cI, 34, .inl f5)), (a2, .inl (cI, 3000, .inl ef)), (a7, .inl (cI, rl, .inl rf)), (a8, .inl (cI, 4096, .inl sl)), (a9, .inl (cI, 3000, .inl cm)), (a3, .inl (cI, 38, .inl pp))]) hP [22, 23, 24, 25, 26, 27, 28, 29, 30, 31, 32, 33, 34, 35, 36, 37, 0, 1, 2, 38, 3, 39, 4, 40, 5, 41, 6, 7, 8, 9, 10, 11, 12, 13, 14, 15, 16, 17, 18, 19, 20, 21] rfl
      have hD := gq_subD (X' := [(h0, .inr (8, [.ref a, .int 0, .ref r0, .int e_2, .int ld, .ref e_15, .ref m0, .ref x0, .ref oA, .ref oB, .ref ra, .ref cu])), (a, .inl (cB, 4000, .inl f)), (r0, .inr (6, [.ref e_19, .int e_4, .int e_5, .int e_6, .ref k4, .ref k5, .ref k6, .ref k7, .int (nI e_7), .int e_8, .int e_9, .int e_10])), (k4, .inl (cI, 501, .inl (fun j => nI (e_11 j)))), (k5, .inl (cI, 501, .inl e_12)), (k6, .inl (cI, 501, .inl e_13)), (k7, .inl (cI, 6, .inl (fun j => nI (e_14 j)))), (e_15, .inr (4, [.int (nI nc), .ref e_16, .ref e_17, .ref e_18])), (e_16, .inl (cI, 3, .inl (fun j => nI (L j)))), (e_17, .inl (cI, 4, .inl cf)), (e_18, .inl (cI, 192, .inl pf)), (e_19, .inr (4, [.int (nI e_27), .ref e_20, .ref e_21, .ref e_22])), (e_20, .inl (cI, 3, .inl (fun j => nI (e_28 j)))), (e_21, .inl (cI, 4, .inl e_29)), (e_22, .inl (cI, 192, .inl e_30)), (m0, .inr (3, [.ref ms, .int vst, .int (nI vk), .int vm, .ref md])), (ms, .inr (7, [.ref mw])), (mw, .inl (cI, 34, .inl mf)), (md, .inl (cI, 38, .inl vd)), (oA, .inr (2, [.int knA, .int flA, .int (nI stA), .int (nI sA), .ref bA])), (bA, .inl (cI, rrA, .inl recA)), (oB, .inr (2, [.int knB, .int flB, .int (nI stB), .int (nI sB), .ref bB])), (bB, .inl (cI, rrB, .inl recB)), (ra, .inr (5, [.int rkn, .int ran, .int rr2, .int rr3, .int rr4, .int (nI rt), .ref a6])), (a6, .inl (cI, 38, .inl rpa)), (cu, .inr (0, [.ref f0, .int (nI lz), .int can, .ref a3l, .int cts, .ref a5t])), (a3l, .inl (cI, 2, .inl lk)), (a5t, .inl (cI, 2, .inl td)), (f0, .inr (4, [.int fc, .ref g1, .ref g2, .ref g3])), (g1, .inl (cI, 3, .inl (fun j => nI (FL j)))), (g2, .inl (cI, 4, .inl fcf)), (g3, .inl (cI, 192, .inl fpf)), (x0, .inr (1, [.int i0, .int i1, .ref a2, .ref a3, .ref s4, .ref s5, .int i6, .ref a7, .ref a8, .ref a9])), (s4, .inr (7, [.ref w4])), (w4, .inl (cI, 34, .inl f4)), (s5, .inr (7, [.ref w5])), (w5, .inl (cI, 34, .inl f5)), (a2, .inl (cI, 3000, .inl ef)), (a7, .inl (cI, rl, .inl rf)), (a8, .inl (cI, 4096, .inl sl)), (a9, .inl (cI, 3000, .inl cm)), (a3, .inl (cI, 38, .inl pp))]) hD [22, 23, 24, 25, 26, 27, 28, 29, 30, 31, 32, 33, 34, 35, 36, 37, 0, 1, 2, 38, 3, 39, 4, 40, 5, 41, 6, 7, 8, 9, 10, 11, 12, 13, 14, 15, 16, 17, 18, 19, 20, 21] (by decide) rfl
      exact kk e_1 _ 0 f e_2 ld nc L cf pf vst vk vm vd _ _ H locs (Or.inr (HallE_mk cI cB cZ h0 0 f e_2 ld nc L cf pf vst vk vm vd a r0 k4 k5 k6 k7 e_15 e_16 e_17 e_18 e_19 e_20 e_21 e_22 m0 ms mw md oA oB ra a6 cu f0 g1 g2 g3 a3l a5t e_4 e_5 e_6 e_7 e_8 e_9 e_10 e_11 e_12 e_13 e_14 e_27 e_28 e_29 e_30 mf knA flA stA sA bA rrA recA knB flB stB sB bB rrB recB rkn ran rr2 rr3 rr4 rt rpa lz can cts td lk fc FL fcf fpf x0 a2 s4 w4 s5 w5 a8 a9 a3 i0 i1 i6 a7 rl rf f4 f5 ef sl cm pp (Nat.zero_le _) hq_39 hq_40 hgo hmk hM hsA hrA hmA hsB hrB hmB hrt hlz hrl hrm)) ⟨rfl, rfl, rfl, rfl, rfl, _, _, _, _, _, _, hx219_0, hx219_1, Or.inr ⟨hzr, rfl, rfl, rfl, rfl, rfl, rfl⟩⟩ hP hD hS
set_option maxHeartbeats 4000000 in
set_option maxRecDepth 100000 in
theorem hl_place {p : Program} {l : Launch} {e : Env} {s : State} {m : MethodId} {below : List Frame} {meth : Method} {c : Code} {b : Nat} {A : Nat → Prop} {Q : State → Prop} {D : va_G} {cI cB cZ : ClassId} {K : gKS} (G : gL p s m c b A D cI cB cZ K) {H : Heap} {locs : List Loc} {ls : Array Slot} {w8 w9 : va_W} {h0 tz kc ns : Nat} {f : Nat → Int32} {fp ld : Int32} {nc : Nat} {L : Nat → Nat} {cf : Nat → Int32} {pf : Nat → Int32} {vst : Int32} {vk : Nat} {vm : Int32} {vd : Nat → Int32} (hH : HallI cI cB cZ h0 w8 tz f fp ld nc L cf pf vst vk vm vd kc ns) (hP : va_P D vwCl (w8 ++ w9) H) (hD : va_D A (w8 ++ w9)) (hS : va_S A s.heap H locs) (hl : ls.size = 4 ∧ True) (kk : ∀ (r : Int32) (w8' : va_W) (tz9 : Nat) (f9 : Nat → Int32) (fp9 ld9 : Int32) (nc9 : Nat) (L9 : Nat → Nat) (cf9 : Nat → Int32) (pf9 : Nat → Int32) (vst9 : Int32) (vk9 : Nat) (vm9 : Int32) (vd9 : Nat → Int32) (kc9 ns9 : Nat) (H1 : Heap) (locs1 : List Loc), HallI cI cB cZ h0 w8' tz9 f9 fp9 ld9 nc9 L9 cf9 pf9 vst9 vk9 vm9 vd9 kc9 ns9 → (r = fp ∧ tz = tz9 ∧ f = f9 ∧ fp = fp9 ∧ ld = ld9 ∧ nc = nc9 ∧ L = L9 ∧ cf = cf9 ∧ pf = pf9 ∧ vst = vst9 ∧ vk = vk9 ∧ vm = vm9 ∧ vd = vd9) → va_P D vwCl (w8' ++ w9) H1 → va_D A (w8' ++ w9) → va_S A s.heap H1 locs1 → W p l e room_1 s m #[Value.ref b] below meth c H1 locs1 kc9 ns9 Q (F0 m 235 ls [.int r])) : W p l e room_1 s m #[Value.ref b] below meth c H locs kc ns Q (F0 m 232 ls [.ref h0]) := by
  obtain ⟨hx, hb, hml, hown, hts, hA, hK, hN, hE⟩ := G
  rcases hH with hH | hH
  · unfold HallN at hH
    obtain ⟨a, hH⟩ := hH
    obtain ⟨r0, hH⟩ := hH
    obtain ⟨k4, hH⟩ := hH
    obtain ⟨k5, hH⟩ := hH
    obtain ⟨k6, hH⟩ := hH
    obtain ⟨k7, hH⟩ := hH
    obtain ⟨p0, hH⟩ := hH
    obtain ⟨b1, hH⟩ := hH
    obtain ⟨b2, hH⟩ := hH
    obtain ⟨b3, hH⟩ := hH
    obtain ⟨d0, hH⟩ := hH
    obtain ⟨e1, hH⟩ := hH
    obtain ⟨e2, hH⟩ := hH
    obtain ⟨e3, hH⟩ := hH
    obtain ⟨m0, hH⟩ := hH
    obtain ⟨ms, hH⟩ := hH
    obtain ⟨mw, hH⟩ := hH
    obtain ⟨md, hH⟩ := hH
    obtain ⟨oA, hH⟩ := hH
    obtain ⟨oB, hH⟩ := hH
    obtain ⟨ra, hH⟩ := hH
    obtain ⟨a6, hH⟩ := hH
    obtain ⟨cu, hH⟩ := hH
    obtain ⟨f0, hH⟩ := hH
    obtain ⟨g1, hH⟩ := hH
    obtain ⟨g2, hH⟩ := hH
    obtain ⟨g3, hH⟩ := hH
    obtain ⟨a3l, hH⟩ := hH
    obtain ⟨a5t, hH⟩ := hH
    obtain ⟨pv, hH⟩ := hH
    obtain ⟨fv, hH⟩ := hH
    obtain ⟨lp, hH⟩ := hH
    obtain ⟨t, hH⟩ := hH
    obtain ⟨tl, hH⟩ := hH
    obtain ⟨vr, hH⟩ := hH
    obtain ⟨vl, hH⟩ := hH
    obtain ⟨Kd, hH⟩ := hH
    obtain ⟨sf, hH⟩ := hH
    obtain ⟨nf, hH⟩ := hH
    obtain ⟨Tk, hH⟩ := hH
    obtain ⟨ncd, hH⟩ := hH
    obtain ⟨Ld, hH⟩ := hH
    obtain ⟨cfd, hH⟩ := hH
    obtain ⟨pfd, hH⟩ := hH
    obtain ⟨mf, hH⟩ := hH
    obtain ⟨flA, hH⟩ := hH
    obtain ⟨stA, hH⟩ := hH
    obtain ⟨sA, hH⟩ := hH
    obtain ⟨bA, hH⟩ := hH
    obtain ⟨rrA, hH⟩ := hH
    obtain ⟨recA, hH⟩ := hH
    obtain ⟨flB, hH⟩ := hH
    obtain ⟨stB, hH⟩ := hH
    obtain ⟨sB, hH⟩ := hH
    obtain ⟨bB, hH⟩ := hH
    obtain ⟨rrB, hH⟩ := hH
    obtain ⟨recB, hH⟩ := hH
    obtain ⟨ran, hH⟩ := hH
    obtain ⟨rr2, hH⟩ := hH
    obtain ⟨rr3, hH⟩ := hH
    obtain ⟨rr4, hH⟩ := hH
    obtain ⟨rt, hH⟩ := hH
    obtain ⟨rpa, hH⟩ := hH
    obtain ⟨lz, hH⟩ := hH
    obtain ⟨can, hH⟩ := hH
    obtain ⟨cts, hH⟩ := hH
    obtain ⟨td, hH⟩ := hH
    obtain ⟨lk, hH⟩ := hH
    obtain ⟨fc, hH⟩ := hH
    obtain ⟨FL, hH⟩ := hH
    obtain ⟨fcf, hH⟩ := hH
    obtain ⟨fpf, hH⟩ := hH
    obtain ⟨htz, hH⟩ := hH
    obtain ⟨hR, hH⟩ := hH
    obtain ⟨hTk, hH⟩ := hH
    obtain ⟨hgo, hH⟩ := hH
    obtain ⟨hmk, hH⟩ := hH
    obtain ⟨hM, hH⟩ := hH
    obtain ⟨hsA, hH⟩ := hH
    obtain ⟨hrA, hH⟩ := hH
    obtain ⟨hmA, hH⟩ := hH
    obtain ⟨hsB, hH⟩ := hH
    obtain ⟨hrB, hH⟩ := hH
    obtain ⟨hmB, hH⟩ := hH
    obtain ⟨hrt, hH⟩ := hH
    obtain ⟨hlz, hH⟩ := hH
    obtain ⟨rfl, rfl, rfl⟩ := hH
    obtain ⟨hc, hL6, hI5⟩ := id hgo
    have hL := gL6_8 hL6
    have hI := gG_up (b' := 7) hI5 (by decide)
    have hkb := gq_kN hmA hmB
    refine gq_goi (wc := [(h0, .inr (8, [.ref a, .int (nI tz), .ref r0, .int fp, .int ld, .ref p0, .ref m0, .null, .ref oA, .ref oB, .ref ra, .ref cu]))]) (wr := [(a, .inl (cB, 4000, .inl f)), (r0, .inr (6, [.ref d0, .int pv, .int fv, .int lp, .ref k4, .ref k5, .ref k6, .ref k7, .int (nI t), .int tl, .int vr, .int vl])), (k4, .inl (cI, 501, .inl (fun j => nI (Kd j)))), (k5, .inl (cI, 501, .inl sf)), (k6, .inl (cI, 501, .inl nf)), (k7, .inl (cI, 6, .inl (fun j => nI (Tk j)))), (p0, .inr (4, [.int (nI nc), .ref b1, .ref b2, .ref b3])), (b1, .inl (cI, 3, .inl (fun j => nI (L j)))), (b2, .inl (cI, 4, .inl cf)), (b3, .inl (cI, 192, .inl pf)), (d0, .inr (4, [.int (nI ncd), .ref e1, .ref e2, .ref e3])), (e1, .inl (cI, 3, .inl (fun j => nI (Ld j)))), (e2, .inl (cI, 4, .inl cfd)), (e3, .inl (cI, 192, .inl pfd)), (m0, .inr (3, [.ref ms, .int vst, .int (nI vk), .int vm, .ref md])), (ms, .inr (7, [.ref mw])), (mw, .inl (cI, 34, .inl mf)), (md, .inl (cI, 38, .inl vd)), (oA, .inr (2, [.int 0, .int flA, .int (nI stA), .int (nI sA), .ref bA])), (bA, .inl (cI, rrA, .inl recA)), (oB, .inr (2, [.int 0, .int flB, .int (nI stB), .int (nI sB), .ref bB])), (bB, .inl (cI, rrB, .inl recB)), (ra, .inr (5, [.int 0, .int ran, .int rr2, .int rr3, .int rr4, .int (nI rt), .ref a6])), (a6, .inl (cI, 38, .inl rpa)), (cu, .inr (0, [.ref f0, .int (nI lz), .int can, .ref a3l, .int cts, .ref a5t])), (a3l, .inl (cI, 2, .inl lk)), (a5t, .inl (cI, 2, .inl td)), (f0, .inr (4, [.int fc, .ref g1, .ref g2, .ref g3])), (g1, .inl (cI, 3, .inl (fun j => nI (FL j)))), (g2, .inl (cI, 4, .inl fcf)), (g3, .inl (cI, 192, .inl fpf))]) (va_runV (As := []) (rest := []) ⟨hx, hb, hml, hown, hts⟩ (x_place8 l D cI cB cZ h0 (.ref a) (.int (nI tz)) (.ref r0) (.int ld) (.ref p0) (.ref m0) (.null) (.ref oA) (.ref oB) (.ref ra) (.ref cu) fp _) (cwV 0 hts gP_law__x_place8 rfl rfl rfl (by decide +kernel) ⟨Nat.le_of_ble_eq_true rfl, Nat.le_of_ble_eq_true rfl⟩) (gx_preV (ci := 8) (q0 := 0) hK gN.nil (gq_Pl hP) (gq_Dl hD) [0] rfl rfl rfl rfl) rfl rfl hl.1 rfl (lv_room (Nat.le_of_ble_eq_true rfl)) dL_law_232 ⟨(Nat.le_trans (Nat.add_le_add_right hkb.1 _) (Nat.le_of_ble_eq_true rfl)), (Nat.le_trans (Nat.add_le_add_right hkb.2 _) (Nat.le_of_ble_eq_true rfl))⟩) hP hD hS hA [0] [1, 2, 3, 4, 5, 6, 7, 8, 9, 10, 11, 12, 13, 14, 15, 16, 17, 18, 19, 20, 21, 22, 23, 24, 25, 26, 27, 28, 29, 30, 31] rfl rfl rfl (by decide) (fun r1 w1 H locs hp hP hD hS => ?_)
    obtain ⟨h9, hp⟩ := hp
    subst hp
    have h9 := h9.symm
    subst h9
    have hP : va_P D vwCl ([(a, .inl (cB, 4000, .inl f)), (r0, .inr (6, [.ref d0, .int pv, .int fv, .int lp, .ref k4, .ref k5, .ref k6, .ref k7, .int (nI t), .int tl, .int vr, .int vl])), (k4, .inl (cI, 501, .inl (fun j => nI (Kd j)))), (k5, .inl (cI, 501, .inl sf)), (k6, .inl (cI, 501, .inl nf)), (k7, .inl (cI, 6, .inl (fun j => nI (Tk j)))), (p0, .inr (4, [.int (nI nc), .ref b1, .ref b2, .ref b3])), (b1, .inl (cI, 3, .inl (fun j => nI (L j)))), (b2, .inl (cI, 4, .inl cf)), (b3, .inl (cI, 192, .inl pf)), (d0, .inr (4, [.int (nI ncd), .ref e1, .ref e2, .ref e3])), (e1, .inl (cI, 3, .inl (fun j => nI (Ld j)))), (e2, .inl (cI, 4, .inl cfd)), (e3, .inl (cI, 192, .inl pfd)), (m0, .inr (3, [.ref ms, .int vst, .int (nI vk), .int vm, .ref md])), (ms, .inr (7, [.ref mw])), (mw, .inl (cI, 34, .inl mf)), (md, .inl (cI, 38, .inl vd)), (oA, .inr (2, [.int 0, .int flA, .int (nI stA), .int (nI sA), .ref bA])), (bA, .inl (cI, rrA, .inl recA)), (oB, .inr (2, [.int 0, .int flB, .int (nI stB), .int (nI sB), .ref bB])), (bB, .inl (cI, rrB, .inl recB)), (ra, .inr (5, [.int 0, .int ran, .int rr2, .int rr3, .int rr4, .int (nI rt), .ref a6])), (a6, .inl (cI, 38, .inl rpa)), (cu, .inr (0, [.ref f0, .int (nI lz), .int can, .ref a3l, .int cts, .ref a5t])), (a3l, .inl (cI, 2, .inl lk)), (a5t, .inl (cI, 2, .inl td)), (f0, .inr (4, [.int fc, .ref g1, .ref g2, .ref g3])), (g1, .inl (cI, 3, .inl (fun j => nI (FL j)))), (g2, .inl (cI, 4, .inl fcf)), (g3, .inl (cI, 192, .inl fpf)), (h0, .inr (8, [.ref a, .int (nI tz), .ref r0, .int fp, .int ld, .ref p0, .ref m0, .null, .ref oA, .ref oB, .ref ra, .ref cu]))] ++ w9) H := hP
    have hD : va_D A ([(a, .inl (cB, 4000, .inl f)), (r0, .inr (6, [.ref d0, .int pv, .int fv, .int lp, .ref k4, .ref k5, .ref k6, .ref k7, .int (nI t), .int tl, .int vr, .int vl])), (k4, .inl (cI, 501, .inl (fun j => nI (Kd j)))), (k5, .inl (cI, 501, .inl sf)), (k6, .inl (cI, 501, .inl nf)), (k7, .inl (cI, 6, .inl (fun j => nI (Tk j)))), (p0, .inr (4, [.int (nI nc), .ref b1, .ref b2, .ref b3])), (b1, .inl (cI, 3, .inl (fun j => nI (L j)))), (b2, .inl (cI, 4, .inl cf)), (b3, .inl (cI, 192, .inl pf)), (d0, .inr (4, [.int (nI ncd), .ref e1, .ref e2, .ref e3])), (e1, .inl (cI, 3, .inl (fun j => nI (Ld j)))), (e2, .inl (cI, 4, .inl cfd)), (e3, .inl (cI, 192, .inl pfd)), (m0, .inr (3, [.ref ms, .int vst, .int (nI vk), .int vm, .ref md])), (ms, .inr (7, [.ref mw])), (mw, .inl (cI, 34, .inl mf)), (md, .inl (cI, 38, .inl vd)), (oA, .inr (2, [.int 0, .int flA, .int (nI stA), .int (nI sA), .ref bA])), (bA, .inl (cI, rrA, .inl recA)), (oB, .inr (2, [.int 0, .int flB, .int (nI stB), .int (nI sB), .ref bB])), (bB, .inl (cI, rrB, .inl recB)), (ra, .inr (5, [.int 0, .int ran, .int rr2, .int rr3, .int rr4, .int (nI rt), .ref a6])), (a6, .inl (cI, 38, .inl rpa)), (cu, .inr (0, [.ref f0, .int (nI lz), .int can, .ref a3l, .int cts, .ref a5t])), (a3l, .inl (cI, 2, .inl lk)), (a5t, .inl (cI, 2, .inl td)), (f0, .inr (4, [.int fc, .ref g1, .ref g2, .ref g3])), (g1, .inl (cI, 3, .inl (fun j => nI (FL j)))), (g2, .inl (cI, 4, .inl fcf)), (g3, .inl (cI, 192, .inl fpf)), (h0, .inr (8, [.ref a, .int (nI tz), .ref r0, .int fp, .int ld, .ref p0, .ref m0, .null, .ref oA, .ref oB, .ref ra, .ref cu]))] ++ w9) := hD
    refine W.widen (k := 63 + (rrA / 17) + (rrB / 17)) (n := 584682 + (2 * rrA + 51000 * (rrA / 51000)) + (2 * rrB + 51000 * (rrB / 51000))) (Nat.le_refl _) (Nat.le_refl _) ?_
    have hP := gq_subP (X' := [(h0, .inr (8, [.ref a, .int (nI tz), .ref r0, .int fp, .int ld, .ref p0, .ref m0, .null, .ref oA, .ref oB, .ref ra, .ref cu])), (a, .inl (cB, 4000, .inl f)), (r0, .inr (6, [.ref d0, .int pv, .int fv, .int lp, .ref k4, .ref k5, .ref k6, .ref k7, .int (nI t), .int tl, .int vr, .int vl])), (k4, .inl (cI, 501, .inl (fun j => nI (Kd j)))), (k5, .inl (cI, 501, .inl sf)), (k6, .inl (cI, 501, .inl nf)), (k7, .inl (cI, 6, .inl (fun j => nI (Tk j)))), (p0, .inr (4, [.int (nI nc), .ref b1, .ref b2, .ref b3])), (b1, .inl (cI, 3, .inl (fun j => nI (L j)))), (b2, .inl (cI, 4, .inl cf)), (b3, .inl (cI, 192, .inl pf)), (d0, .inr (4, [.int (nI ncd), .ref e1, .ref e2, .ref e3])), (e1, .inl (cI, 3, .inl (fun j => nI (Ld j)))), (e2, .inl (cI, 4, .inl cfd)), (e3, .inl (cI, 192, .inl pfd)), (m0, .inr (3, [.ref ms, .int vst, .int (nI vk), .int vm, .ref md])), (ms, .inr (7, [.ref mw])), (mw, .inl (cI, 34, .inl mf)), (md, .inl (cI, 38, .inl vd)), (oA, .inr (2, [.int 0, .int flA, .int (nI stA), .int (nI sA), .ref bA])), (bA, .inl (cI, rrA, .inl recA)), (oB, .inr (2, [.int 0, .int flB, .int (nI stB), .int (nI sB), .ref bB])), (bB, .inl (cI, rrB, .inl recB)), (ra, .inr (5, [.int 0, .int ran, .int rr2, .int rr3, .int rr4, .int (nI rt), .ref a6])), (a6, .inl (cI, 38, .inl rpa)), (cu, .inr (0, [.ref f0, .int (nI lz), .int can, .ref a3l, .int cts, .ref a5t])), (a3l, .inl (cI, 2, .inl lk)), (a5t, .inl (cI, 2, .inl td)), (f0, .inr (4, [.int fc, .ref g1, .ref g2, .ref g3])), (g1, .inl (cI, 3, .inl (fun j => nI (FL j)))), (g2, .inl (cI, 4, .inl fcf)), (g3, .inl (cI, 192, .inl fpf))]) hP [31, 0, 1, 2, 3, 4, 5, 6, 7, 8, 9, 10, 11, 12, 13, 14, 15, 16, 17, 18, 19, 20, 21, 22, 23, 24, 25, 26, 27, 28, 29, 30] rfl
    have hD := gq_subD (X' := [(h0, .inr (8, [.ref a, .int (nI tz), .ref r0, .int fp, .int ld, .ref p0, .ref m0, .null, .ref oA, .ref oB, .ref ra, .ref cu])), (a, .inl (cB, 4000, .inl f)), (r0, .inr (6, [.ref d0, .int pv, .int fv, .int lp, .ref k4, .ref k5, .ref k6, .ref k7, .int (nI t), .int tl, .int vr, .int vl])), (k4, .inl (cI, 501, .inl (fun j => nI (Kd j)))), (k5, .inl (cI, 501, .inl sf)), (k6, .inl (cI, 501, .inl nf)), (k7, .inl (cI, 6, .inl (fun j => nI (Tk j)))), (p0, .inr (4, [.int (nI nc), .ref b1, .ref b2, .ref b3])), (b1, .inl (cI, 3, .inl (fun j => nI (L j)))), (b2, .inl (cI, 4, .inl cf)), (b3, .inl (cI, 192, .inl pf)), (d0, .inr (4, [.int (nI ncd), .ref e1, .ref e2, .ref e3])), (e1, .inl (cI, 3, .inl (fun j => nI (Ld j)))), (e2, .inl (cI, 4, .inl cfd)), (e3, .inl (cI, 192, .inl pfd)), (m0, .inr (3, [.ref ms, .int vst, .int (nI vk), .int vm, .ref md])), (ms, .inr (7, [.ref mw])), (mw, .inl (cI, 34, .inl mf)), (md, .inl (cI, 38, .inl vd)), (oA, .inr (2, [.int 0, .int flA, .int (nI stA), .int (nI sA), .ref bA])), (bA, .inl (cI, rrA, .inl recA)), (oB, .inr (2, [.int 0, .int flB, .int (nI stB), .int (nI sB), .ref bB])), (bB, .inl (cI, rrB, .inl recB)), (ra, .inr (5, [.int 0, .int ran, .int rr2, .int rr3, .int rr4, .int (nI rt), .ref a6])), (a6, .inl (cI, 38, .inl rpa)), (cu, .inr (0, [.ref f0, .int (nI lz), .int can, .ref a3l, .int cts, .ref a5t])), (a3l, .inl (cI, 2, .inl lk)), (a5t, .inl (cI, 2, .inl td)), (f0, .inr (4, [.int fc, .ref g1, .ref g2, .ref g3])), (g1, .inl (cI, 3, .inl (fun j => nI (FL j)))), (g2, .inl (cI, 4, .inl fcf)), (g3, .inl (cI, 192, .inl fpf))]) hD [31, 0, 1, 2, 3, 4, 5, 6, 7, 8, 9, 10, 11, 12, 13, 14, 15, 16, 17, 18, 19, 20, 21, 22, 23, 24, 25, 26, 27, 28, 29, 30] (by decide) rfl
    exact kk fp _ tz f fp ld nc L cf pf vst vk vm vd _ _ H locs (Or.inl (HallN_mk cI cB cZ h0 tz f fp ld nc L cf pf vst vk vm vd a r0 k4 k5 k6 k7 p0 b1 b2 b3 d0 e1 e2 e3 m0 ms mw md oA oB ra a6 cu f0 g1 g2 g3 a3l a5t pv fv lp t tl vr vl Kd sf nf Tk ncd Ld cfd pfd mf flA stA sA bA rrA recA flB stB sB bB rrB recB ran rr2 rr3 rr4 rt rpa lz can cts td lk fc FL fcf fpf htz hR hTk hgo hmk hM hsA hrA hmA hsB hrB hmB hrt hlz)) ⟨rfl, rfl, rfl, rfl, rfl, rfl, rfl, rfl, rfl, rfl, rfl, rfl, rfl⟩ hP hD hS
  · unfold HallE at hH
    obtain ⟨a, hH⟩ := hH
    obtain ⟨r0, hH⟩ := hH
    obtain ⟨k4, hH⟩ := hH
    obtain ⟨k5, hH⟩ := hH
    obtain ⟨k6, hH⟩ := hH
    obtain ⟨k7, hH⟩ := hH
    obtain ⟨p0, hH⟩ := hH
    obtain ⟨b1, hH⟩ := hH
    obtain ⟨b2, hH⟩ := hH
    obtain ⟨b3, hH⟩ := hH
    obtain ⟨d0, hH⟩ := hH
    obtain ⟨e1, hH⟩ := hH
    obtain ⟨e2, hH⟩ := hH
    obtain ⟨e3, hH⟩ := hH
    obtain ⟨m0, hH⟩ := hH
    obtain ⟨ms, hH⟩ := hH
    obtain ⟨mw, hH⟩ := hH
    obtain ⟨md, hH⟩ := hH
    obtain ⟨oA, hH⟩ := hH
    obtain ⟨oB, hH⟩ := hH
    obtain ⟨ra, hH⟩ := hH
    obtain ⟨a6, hH⟩ := hH
    obtain ⟨cu, hH⟩ := hH
    obtain ⟨f0, hH⟩ := hH
    obtain ⟨g1, hH⟩ := hH
    obtain ⟨g2, hH⟩ := hH
    obtain ⟨g3, hH⟩ := hH
    obtain ⟨a3l, hH⟩ := hH
    obtain ⟨a5t, hH⟩ := hH
    obtain ⟨pv, hH⟩ := hH
    obtain ⟨fv, hH⟩ := hH
    obtain ⟨lp, hH⟩ := hH
    obtain ⟨t, hH⟩ := hH
    obtain ⟨tl, hH⟩ := hH
    obtain ⟨vr, hH⟩ := hH
    obtain ⟨vl, hH⟩ := hH
    obtain ⟨Kd, hH⟩ := hH
    obtain ⟨sf, hH⟩ := hH
    obtain ⟨nf, hH⟩ := hH
    obtain ⟨Tk, hH⟩ := hH
    obtain ⟨ncd, hH⟩ := hH
    obtain ⟨Ld, hH⟩ := hH
    obtain ⟨cfd, hH⟩ := hH
    obtain ⟨pfd, hH⟩ := hH
    obtain ⟨mf, hH⟩ := hH
    obtain ⟨knA, hH⟩ := hH
    obtain ⟨flA, hH⟩ := hH
    obtain ⟨stA, hH⟩ := hH
    obtain ⟨sA, hH⟩ := hH
    obtain ⟨bA, hH⟩ := hH
    obtain ⟨rrA, hH⟩ := hH
    obtain ⟨recA, hH⟩ := hH
    obtain ⟨knB, hH⟩ := hH
    obtain ⟨flB, hH⟩ := hH
    obtain ⟨stB, hH⟩ := hH
    obtain ⟨sB, hH⟩ := hH
    obtain ⟨bB, hH⟩ := hH
    obtain ⟨rrB, hH⟩ := hH
    obtain ⟨recB, hH⟩ := hH
    obtain ⟨rkn, hH⟩ := hH
    obtain ⟨ran, hH⟩ := hH
    obtain ⟨rr2, hH⟩ := hH
    obtain ⟨rr3, hH⟩ := hH
    obtain ⟨rr4, hH⟩ := hH
    obtain ⟨rt, hH⟩ := hH
    obtain ⟨rpa, hH⟩ := hH
    obtain ⟨lz, hH⟩ := hH
    obtain ⟨can, hH⟩ := hH
    obtain ⟨cts, hH⟩ := hH
    obtain ⟨td, hH⟩ := hH
    obtain ⟨lk, hH⟩ := hH
    obtain ⟨fc, hH⟩ := hH
    obtain ⟨FL, hH⟩ := hH
    obtain ⟨fcf, hH⟩ := hH
    obtain ⟨fpf, hH⟩ := hH
    obtain ⟨x0, hH⟩ := hH
    obtain ⟨a2, hH⟩ := hH
    obtain ⟨s4, hH⟩ := hH
    obtain ⟨w4, hH⟩ := hH
    obtain ⟨s5, hH⟩ := hH
    obtain ⟨w5, hH⟩ := hH
    obtain ⟨a8, hH⟩ := hH
    obtain ⟨a9, hH⟩ := hH
    obtain ⟨a3, hH⟩ := hH
    obtain ⟨i0, hH⟩ := hH
    obtain ⟨i1, hH⟩ := hH
    obtain ⟨i6, hH⟩ := hH
    obtain ⟨a7, hH⟩ := hH
    obtain ⟨rl, hH⟩ := hH
    obtain ⟨rf, hH⟩ := hH
    obtain ⟨f4, hH⟩ := hH
    obtain ⟨f5, hH⟩ := hH
    obtain ⟨ef, hH⟩ := hH
    obtain ⟨sl, hH⟩ := hH
    obtain ⟨cm, hH⟩ := hH
    obtain ⟨pp, hH⟩ := hH
    obtain ⟨htz, hH⟩ := hH
    obtain ⟨hR, hH⟩ := hH
    obtain ⟨hTk, hH⟩ := hH
    obtain ⟨hgo, hH⟩ := hH
    obtain ⟨hmk, hH⟩ := hH
    obtain ⟨hM, hH⟩ := hH
    obtain ⟨hsA, hH⟩ := hH
    obtain ⟨hrA, hH⟩ := hH
    obtain ⟨hmA, hH⟩ := hH
    obtain ⟨hsB, hH⟩ := hH
    obtain ⟨hrB, hH⟩ := hH
    obtain ⟨hmB, hH⟩ := hH
    obtain ⟨hrt, hH⟩ := hH
    obtain ⟨hlz, hH⟩ := hH
    obtain ⟨hrl, hH⟩ := hH
    obtain ⟨hrm, hH⟩ := hH
    obtain ⟨rfl, rfl, rfl⟩ := hH
    obtain ⟨hc, hL6, hI5⟩ := id hgo
    have hL := gL6_8 hL6
    have hI := gG_up (b' := 7) hI5 (by decide)
    have hkb := gq_k hmA hmB hrm.2
    refine gq_goi (wc := [(h0, .inr (8, [.ref a, .int (nI tz), .ref r0, .int fp, .int ld, .ref p0, .ref m0, .ref x0, .ref oA, .ref oB, .ref ra, .ref cu]))]) (wr := [(a, .inl (cB, 4000, .inl f)), (r0, .inr (6, [.ref d0, .int pv, .int fv, .int lp, .ref k4, .ref k5, .ref k6, .ref k7, .int (nI t), .int tl, .int vr, .int vl])), (k4, .inl (cI, 501, .inl (fun j => nI (Kd j)))), (k5, .inl (cI, 501, .inl sf)), (k6, .inl (cI, 501, .inl nf)), (k7, .inl (cI, 6, .inl (fun j => nI (Tk j)))), (p0, .inr (4, [.int (nI nc), .ref b1, .ref b2, .ref b3])), (b1, .inl (cI, 3, .inl (fun j => nI (L j)))), (b2, .inl (cI, 4, .inl cf)), (b3, .inl (cI, 192, .inl pf)), (d0, .inr (4, [.int (nI ncd), .ref e1, .ref e2, .ref e3])), (e1, .inl (cI, 3, .inl (fun j => nI (Ld j)))), (e2, .inl (cI, 4, .inl cfd)), (e3, .inl (cI, 192, .inl pfd)), (m0, .inr (3, [.ref ms, .int vst, .int (nI vk), .int vm, .ref md])), (ms, .inr (7, [.ref mw])), (mw, .inl (cI, 34, .inl mf)), (md, .inl (cI, 38, .inl vd)), (oA, .inr (2, [.int knA, .int flA, .int (nI stA), .int (nI sA), .ref bA])), (bA, .inl (cI, rrA, .inl recA)), (oB, .inr (2, [.int knB, .int flB, .int (nI stB), .int (nI sB), .ref bB])), (bB, .inl (cI, rrB, .inl recB)), (ra, .inr (5, [.int rkn, .int ran, .int rr2, .int rr3, .int rr4, .int (nI rt), .ref a6])), (a6, .inl (cI, 38, .inl rpa)), (cu, .inr (0, [.ref f0, .int (nI lz), .int can, .ref a3l, .int cts, .ref a5t])), (a3l, .inl (cI, 2, .inl lk)), (a5t, .inl (cI, 2, .inl td)), (f0, .inr (4, [.int fc, .ref g1, .ref g2, .ref g3])), (g1, .inl (cI, 3, .inl (fun j => nI (FL j)))), (g2, .inl (cI, 4, .inl fcf)), (g3, .inl (cI, 192, .inl fpf)), (x0, .inr (1, [.int i0, .int i1, .ref a2, .ref a3, .ref s4, .ref s5, .int i6, .ref a7, .ref a8, .ref a9])), (s4, .inr (7, [.ref w4])), (w4, .inl (cI, 34, .inl f4)), (s5, .inr (7, [.ref w5])), (w5, .inl (cI, 34, .inl f5)), (a2, .inl (cI, 3000, .inl ef)), (a7, .inl (cI, rl, .inl rf)), (a8, .inl (cI, 4096, .inl sl)), (a9, .inl (cI, 3000, .inl cm)), (a3, .inl (cI, 38, .inl pp))]) (va_runV (As := []) (rest := []) ⟨hx, hb, hml, hown, hts⟩ (x_place8 l D cI cB cZ h0 (.ref a) (.int (nI tz)) (.ref r0) (.int ld) (.ref p0) (.ref m0) (.ref x0) (.ref oA) (.ref oB) (.ref ra) (.ref cu) fp _) (cwV 0 hts gP_law__x_place8 rfl rfl rfl (by decide +kernel) ⟨Nat.le_of_ble_eq_true rfl, Nat.le_of_ble_eq_true rfl⟩) (gx_preV (ci := 8) (q0 := 0) hK gN.nil (gq_Pl hP) (gq_Dl hD) [0] rfl rfl rfl rfl) rfl rfl hl.1 rfl (lv_room (Nat.le_of_ble_eq_true rfl)) dL_law_232 ⟨(Nat.le_trans (Nat.add_le_add_right hkb.1 _) (Nat.le_of_ble_eq_true rfl)), (Nat.le_trans (Nat.add_le_add_right hkb.2 _) (Nat.le_of_ble_eq_true rfl))⟩) hP hD hS hA [0] [1, 2, 3, 4, 5, 6, 7, 8, 9, 10, 11, 12, 13, 14, 15, 16, 17, 18, 19, 20, 21, 22, 23, 24, 25, 26, 27, 28, 29, 30, 31, 32, 33, 34, 35, 36, 37, 38, 39, 40, 41] rfl rfl rfl (by decide) (fun r1 w1 H locs hp hP hD hS => ?_)
    obtain ⟨h9, hp⟩ := hp
    subst hp
    have h9 := h9.symm
    subst h9
    have hP : va_P D vwCl ([(a, .inl (cB, 4000, .inl f)), (r0, .inr (6, [.ref d0, .int pv, .int fv, .int lp, .ref k4, .ref k5, .ref k6, .ref k7, .int (nI t), .int tl, .int vr, .int vl])), (k4, .inl (cI, 501, .inl (fun j => nI (Kd j)))), (k5, .inl (cI, 501, .inl sf)), (k6, .inl (cI, 501, .inl nf)), (k7, .inl (cI, 6, .inl (fun j => nI (Tk j)))), (p0, .inr (4, [.int (nI nc), .ref b1, .ref b2, .ref b3])), (b1, .inl (cI, 3, .inl (fun j => nI (L j)))), (b2, .inl (cI, 4, .inl cf)), (b3, .inl (cI, 192, .inl pf)), (d0, .inr (4, [.int (nI ncd), .ref e1, .ref e2, .ref e3])), (e1, .inl (cI, 3, .inl (fun j => nI (Ld j)))), (e2, .inl (cI, 4, .inl cfd)), (e3, .inl (cI, 192, .inl pfd)), (m0, .inr (3, [.ref ms, .int vst, .int (nI vk), .int vm, .ref md])), (ms, .inr (7, [.ref mw])), (mw, .inl (cI, 34, .inl mf)), (md, .inl (cI, 38, .inl vd)), (oA, .inr (2, [.int knA, .int flA, .int (nI stA), .int (nI sA), .ref bA])), (bA, .inl (cI, rrA, .inl recA)), (oB, .inr (2, [.int knB, .int flB, .int (nI stB), .int (nI sB), .ref bB])), (bB, .inl (cI, rrB, .inl recB)), (ra, .inr (5, [.int rkn, .int ran, .int rr2, .int rr3, .int rr4, .int (nI rt), .ref a6])), (a6, .inl (cI, 38, .inl rpa)), (cu, .inr (0, [.ref f0, .int (nI lz), .int can, .ref a3l, .int cts, .ref a5t])), (a3l, .inl (cI, 2, .inl lk)), (a5t, .inl (cI, 2, .inl td)), (f0, .inr (4, [.int fc, .ref g1, .ref g2, .ref g3])), (g1, .inl (cI, 3, .inl (fun j => nI (FL j)))), (g2, .inl (cI, 4, .inl fcf)), (g3, .inl (cI, 192, .inl fpf)), (x0, .inr (1, [.int i0, .int i1, .ref a2, .ref a3, .ref s4, .ref s5, .int i6, .ref a7, .ref a8, .ref a9])), (s4, .inr (7, [.ref w4])), (w4, .inl (cI, 34, .inl f4)), (s5, .inr (7, [.ref w5])), (w5, .inl (cI, 34, .inl f5)), (a2, .inl (cI, 3000, .inl ef)), (a7, .inl (cI, rl, .inl rf)), (a8, .inl (cI, 4096, .inl sl)), (a9, .inl (cI, 3000, .inl cm)), (a3, .inl (cI, 38, .inl pp)), (h0, .inr (8, [.ref a, .int (nI tz), .ref r0, .int fp, .int ld, .ref p0, .ref m0, .ref x0, .ref oA, .ref oB, .ref ra, .ref cu]))] ++ w9) H := hP
    have hD : va_D A ([(a, .inl (cB, 4000, .inl f)), (r0, .inr (6, [.ref d0, .int pv, .int fv, .int lp, .ref k4, .ref k5, .ref k6, .ref k7, .int (nI t), .int tl, .int vr, .int vl])), (k4, .inl (cI, 501, .inl (fun j => nI (Kd j)))), (k5, .inl (cI, 501, .inl sf)), (k6, .inl (cI, 501, .inl nf)), (k7, .inl (cI, 6, .inl (fun j => nI (Tk j)))), (p0, .inr (4, [.int (nI nc), .ref b1, .ref b2, .ref b3])), (b1, .inl (cI, 3, .inl (fun j => nI (L j)))), (b2, .inl (cI, 4, .inl cf)), (b3, .inl (cI, 192, .inl pf)), (d0, .inr (4, [.int (nI ncd), .ref e1, .ref e2, .ref e3])), (e1, .inl (cI, 3, .inl (fun j => nI (Ld j)))), (e2, .inl (cI, 4, .inl cfd)), (e3, .inl (cI, 192, .inl pfd)), (m0, .inr (3, [.ref ms, .int vst, .int (nI vk), .int vm, .ref md])), (ms, .inr (7, [.ref mw])), (mw, .inl (cI, 34, .inl mf)), (md, .inl (cI, 38, .inl vd)), (oA, .inr (2, [.int knA, .int flA, .int (nI stA), .int (nI sA), .ref bA])), (bA, .inl (cI, rrA, .inl recA)), (oB, .inr (2, [.int knB, .int flB, .int (nI stB), .int (nI sB), .ref bB])), (bB, .inl (cI, rrB, .inl recB)), (ra, .inr (5, [.int rkn, .int ran, .int rr2, .int rr3, .int rr4, .int (nI rt), .ref a6])), (a6, .inl (cI, 38, .inl rpa)), (cu, .inr (0, [.ref f0, .int (nI lz), .int can, .ref a3l, .int cts, .ref a5t])), (a3l, .inl (cI, 2, .inl lk)), (a5t, .inl (cI, 2, .inl td)), (f0, .inr (4, [.int fc, .ref g1, .ref g2, .ref g3])), (g1, .inl (cI, 3, .inl (fun j => nI (FL j)))), (g2, .inl (cI, 4, .inl fcf)), (g3, .inl (cI, 192, .inl fpf)), (x0, .inr (1, [.int i0, .int i1, .ref a2, .ref a3, .ref s4, .ref s5, .int i6, .ref a7, .ref a8, .ref a9])), (s4, .inr (7, [.ref w4])), (w4, .inl (cI, 34, .inl f4)), (s5, .inr (7, [.ref w5])), (w5, .inl (cI, 34, .inl f5)), (a2, .inl (cI, 3000, .inl ef)), (a7, .inl (cI, rl, .inl rf)), (a8, .inl (cI, 4096, .inl sl)), (a9, .inl (cI, 3000, .inl cm)), (a3, .inl (cI, 38, .inl pp)), (h0, .inr (8, [.ref a, .int (nI tz), .ref r0, .int fp, .int ld, .ref p0, .ref m0, .ref x0, .ref oA, .ref oB, .ref ra, .ref cu]))] ++ w9) := hD
    refine W.widen (k := 63 + (rrA / 17) + (rrB / 17) + 10 + ((rl - 1600) / 4800)) (n := 584682 + (2 * rrA + 51000 * (rrA / 51000)) + (2 * rrB + 51000 * (rrB / 51000)) + 11814 + (2 * (rl - 1600))) (Nat.le_refl _) (Nat.le_refl _) ?_
    have hP := gq_subP (X' := [(h0, .inr (8, [.ref a, .int (nI tz), .ref r0, .int fp, .int ld, .ref p0, .ref m0, .ref x0, .ref oA, .ref oB, .ref ra, .ref cu])), (a, .inl (cB, 4000, .inl f)), (r0, .inr (6, [.ref d0, .int pv, .int fv, .int lp, .ref k4, .ref k5, .ref k6, .ref k7, .int (nI t), .int tl, .int vr, .int vl])), (k4, .inl (cI, 501, .inl (fun j => nI (Kd j)))), (k5, .inl (cI, 501, .inl sf)), (k6, .inl (cI, 501, .inl nf)), (k7, .inl (cI, 6, .inl (fun j => nI (Tk j)))), (p0, .inr (4, [.int (nI nc), .ref b1, .ref b2, .ref b3])), (b1, .inl (cI, 3, .inl (fun j => nI (L j)))), (b2, .inl (cI, 4, .inl cf)), (b3, .inl (cI, 192, .inl pf)), (d0, .inr (4, [.int (nI ncd), .ref e1, .ref e2, .ref e3])), (e1, .inl (cI, 3, .inl (fun j => nI (Ld j)))), (e2, .inl (cI, 4, .inl cfd)), (e3, .inl (cI, 192, .inl pfd)), (m0, .inr (3, [.ref ms, .int vst, .int (nI vk), .int vm, .ref md])), (ms, .inr (7, [.ref mw])), (mw, .inl (cI, 34, .inl mf)), (md, .inl (cI, 38, .inl vd)), (oA, .inr (2, [.int knA, .int flA, .int (nI stA), .int (nI sA), .ref bA])), (bA, .inl (cI, rrA, .inl recA)), (oB, .inr (2, [.int knB, .int flB, .int (nI stB), .int (nI sB), .ref bB])), (bB, .inl (cI, rrB, .inl recB)), (ra, .inr (5, [.int rkn, .int ran, .int rr2, .int rr3, .int rr4, .int (nI rt), .ref a6])), (a6, .inl (cI, 38, .inl rpa)), (cu, .inr (0, [.ref f0, .int (nI lz), .int can, .ref a3l, .int cts, .ref a5t])), (a3l, .inl (cI, 2, .inl lk)), (a5t, .inl (cI, 2, .inl td)), (f0, .inr (4, [.int fc, .ref g1, .ref g2, .ref g3])), (g1, .inl (cI, 3, .inl (fun j => nI (FL j)))), (g2, .inl (cI, 4, .inl fcf)), (g3, .inl (cI, 192, .inl fpf)), (x0, .inr (1, [.int i0, .int i1, .ref a2, .ref a3, .ref s4, .ref s5, .int i6, .ref a7, .ref a8, .ref a9])), (s4, .inr (7, [.ref w4])), (w4, .inl (cI, 34, .inl f4)), (s5, .inr (7, [.ref w5])), (w5, .inl (cI, 34, .inl f5)), (a2, .inl (cI, 3000, .inl ef)), (a7, .inl (cI, rl, .inl rf)), (a8, .inl (cI, 4096, .inl sl)), (a9, .inl (cI, 3000, .inl cm)), (a3, .inl (cI, 38, .inl pp))]) hP [41, 0, 1, 2, 3, 4, 5, 6, 7, 8, 9, 10, 11, 12, 13, 14, 15, 16, 17, 18, 19, 20, 21, 22, 23, 24, 25, 26, 27, 28, 29, 30, 31, 32, 33, 34, 35, 36, 37, 38, 39, 40] rfl
    have hD := gq_subD (X' := [(h0, .inr (8, [.ref a, .int (nI tz), .ref r0, .int fp, .int ld, .ref p0, .ref m0, .ref x0, .ref oA, .ref oB, .ref ra, .ref cu])), (a, .inl (cB, 4000, .inl f)), (r0, .inr (6, [.ref d0, .int pv, .int fv, .int lp, .ref k4, .ref k5, .ref k6, .ref k7, .int (nI t), .int tl, .int vr, .int vl])), (k4, .inl (cI, 501, .inl (fun j => nI (Kd j)))), (k5, .inl (cI, 501, .inl sf)), (k6, .inl (cI, 501, .inl nf)), (k7, .inl (cI, 6, .inl (fun j => nI (Tk j)))), (p0, .inr (4, [.int (nI nc), .ref b1, .ref b2, .ref b3])), (b1, .inl (cI, 3, .inl (fun j => nI (L j)))), (b2, .inl (cI, 4, .inl cf)), (b3, .inl (cI, 192, .inl pf)), (d0, .inr (4, [.int (nI ncd), .ref e1, .ref e2, .ref e3])), (e1, .inl (cI, 3, .inl (fun j => nI (Ld j)))), (e2, .inl (cI, 4, .inl cfd)), (e3, .inl (cI, 192, .inl pfd)), (m0, .inr (3, [.ref ms, .int vst, .int (nI vk), .int vm, .ref md])), (ms, .inr (7, [.ref mw])), (mw, .inl (cI, 34, .inl mf)), (md, .inl (cI, 38, .inl vd)), (oA, .inr (2, [.int knA, .int flA, .int (nI stA), .int (nI sA), .ref bA])), (bA, .inl (cI, rrA, .inl recA)), (oB, .inr (2, [.int knB, .int flB, .int (nI stB), .int (nI sB), .ref bB])), (bB, .inl (cI, rrB, .inl recB)), (ra, .inr (5, [.int rkn, .int ran, .int rr2, .int rr3, .int rr4, .int (nI rt), .ref a6])), (a6, .inl (cI, 38, .inl rpa)), (cu, .inr (0, [.ref f0, .int (nI lz), .int can, .ref a3l, .int cts, .ref a5t])), (a3l, .inl (cI, 2, .inl lk)), (a5t, .inl (cI, 2, .inl td)), (f0, .inr (4, [.int fc, .ref g1, .ref g2, .ref g3])), (g1, .inl (cI, 3, .inl (fun j => nI (FL j)))), (g2, .inl (cI, 4, .inl fcf)), (g3, .inl (cI, 192, .inl fpf)), (x0, .inr (1, [.int i0, .int i1, .ref a2, .ref a3, .ref s4, .ref s5, .int i6, .ref a7, .ref a8, .ref a9])), (s4, .inr (7, [.ref w4])), (w4, .inl (cI, 34, .inl f4)), (s5, .inr (7, [.ref w5])), (w5, .inl (cI, 34, .inl f5)), (a2, .inl (cI, 3000, .inl ef)), (a7, .inl (cI, rl, .inl rf)), (a8, .inl (cI, 4096, .inl sl)), (a9, .inl (cI, 3000, .inl cm)), (a3, .inl (cI, 38, .inl pp))]) hD [41, 0, 1, 2, 3, 4, 5, 6, 7, 8, 9, 10, 11, 12, 13, 14, 15, 16, 17, 18, 19, 20, 21, 22, 23, 24, 25, 26, 27, 28, 29, 30, 31, 32, 33, 34, 35, 36, 37, 38, 39, 40] (by decide) rfl
    exact kk fp _ tz f fp ld nc L cf pf vst vk vm vd _ _ H locs (Or.inr (HallE_mk cI cB cZ h0 tz f fp ld nc L cf pf vst vk vm vd a r0 k4 k5 k6 k7 p0 b1 b2 b3 d0 e1 e2 e3 m0 ms mw md oA oB ra a6 cu f0 g1 g2 g3 a3l a5t pv fv lp t tl vr vl Kd sf nf Tk ncd Ld cfd pfd mf knA flA stA sA bA rrA recA knB flB stB sB bB rrB recB rkn ran rr2 rr3 rr4 rt rpa lz can cts td lk fc FL fcf fpf x0 a2 s4 w4 s5 w5 a8 a9 a3 i0 i1 i6 a7 rl rf f4 f5 ef sl cm pp htz hR hTk hgo hmk hM hsA hrA hmA hsB hrB hmB hrt hlz hrl hrm)) ⟨rfl, rfl, rfl, rfl, rfl, rfl, rfl, rfl, rfl, rfl, rfl, rfl, rfl⟩ hP hD hS
set_option maxHeartbeats 4000000 in
set_option maxRecDepth 100000 in
theorem hl_ins {p : Program} {l : Launch} {e : Env} {s : State} {m : MethodId} {below : List Frame} {meth : Method} {c : Code} {b : Nat} {A : Nat → Prop} {Q : State → Prop} {D : va_G} {cI cB cZ : ClassId} {K : gKS} (G : gL p s m c b A D cI cB cZ K) {H : Heap} {locs : List Loc} {ls : Array Slot} {w8 w9 : va_W} {h0 tz kc ns : Nat} {f : Nat → Int32} {fp ld : Int32} {nc : Nat} {L : Nat → Nat} {cf : Nat → Int32} {pf : Nat → Int32} {vst : Int32} {vk : Nat} {vm : Int32} {vd : Nat → Int32} (hH : HallI cI cB cZ h0 w8 tz f fp ld nc L cf pf vst vk vm vd kc ns) (hP : va_P D vwCl (w8 ++ w9) H) (hD : va_D A (w8 ++ w9)) (hS : va_S A s.heap H locs) (hl : ls.size = 4 ∧ True) (z1 : Int32) (z2 : Int32) (z3 : Int32) (kk : ∀ (r : Int32) (w8' : va_W) (tz9 : Nat) (f9 : Nat → Int32) (fp9 ld9 : Int32) (nc9 : Nat) (L9 : Nat → Nat) (cf9 : Nat → Int32) (pf9 : Nat → Int32) (vst9 : Int32) (vk9 : Nat) (vm9 : Int32) (vd9 : Nat → Int32) (kc9 ns9 : Nat) (H1 : Heap) (locs1 : List Loc), HallI cI cB cZ h0 w8' tz9 f9 fp9 ld9 nc9 L9 cf9 pf9 vst9 vk9 vm9 vd9 kc9 ns9 → (rIB ld nc L (fun a b c => pf ((((a * 8) + b) * 8) + c)) z1 z2 z3 r ∧ tz = tz9 ∧ f = f9 ∧ fp = fp9 ∧ ld = ld9 ∧ nc = nc9 ∧ L = L9 ∧ cf = cf9 ∧ pf = pf9 ∧ vst = vst9 ∧ vk = vk9 ∧ vm = vm9 ∧ vd = vd9) → va_P D vwCl (w8' ++ w9) H1 → va_D A (w8' ++ w9) → va_S A s.heap H1 locs1 → W p l e room_1 s m #[Value.ref b] below meth c H1 locs1 kc9 ns9 Q (F0 m 263 ls [.int r])) : W p l e room_1 s m #[Value.ref b] below meth c H locs kc ns Q (F0 m 260 ls [.int z3, .int z2, .int z1, .ref h0]) := by
  obtain ⟨hx, hb, hml, hown, hts, hA, hK, hN, hE⟩ := G
  rcases hH with hH | hH
  · unfold HallN at hH
    obtain ⟨a, hH⟩ := hH
    obtain ⟨r0, hH⟩ := hH
    obtain ⟨k4, hH⟩ := hH
    obtain ⟨k5, hH⟩ := hH
    obtain ⟨k6, hH⟩ := hH
    obtain ⟨k7, hH⟩ := hH
    obtain ⟨p0, hH⟩ := hH
    obtain ⟨b1, hH⟩ := hH
    obtain ⟨b2, hH⟩ := hH
    obtain ⟨b3, hH⟩ := hH
    obtain ⟨d0, hH⟩ := hH
    obtain ⟨e1, hH⟩ := hH
    obtain ⟨e2, hH⟩ := hH
    obtain ⟨e3, hH⟩ := hH
    obtain ⟨m0, hH⟩ := hH
    obtain ⟨ms, hH⟩ := hH
    obtain ⟨mw, hH⟩ := hH
    obtain ⟨md, hH⟩ := hH
    obtain ⟨oA, hH⟩ := hH
    obtain ⟨oB, hH⟩ := hH
    obtain ⟨ra, hH⟩ := hH
    obtain ⟨a6, hH⟩ := hH
    obtain ⟨cu, hH⟩ := hH
    obtain ⟨f0, hH⟩ := hH
    obtain ⟨g1, hH⟩ := hH
    obtain ⟨g2, hH⟩ := hH
    obtain ⟨g3, hH⟩ := hH
    obtain ⟨a3l, hH⟩ := hH
    obtain ⟨a5t, hH⟩ := hH
    obtain ⟨pv, hH⟩ := hH
    obtain ⟨fv, hH⟩ := hH
    obtain ⟨lp, hH⟩ := hH
    obtain ⟨t, hH⟩ := hH
    obtain ⟨tl, hH⟩ := hH
    obtain ⟨vr, hH⟩ := hH
    obtain ⟨vl, hH⟩ := hH
    obtain ⟨Kd, hH⟩ := hH
    obtain ⟨sf, hH⟩ := hH
    obtain ⟨nf, hH⟩ := hH
    obtain ⟨Tk, hH⟩ := hH
    obtain ⟨ncd, hH⟩ := hH
    obtain ⟨Ld, hH⟩ := hH
    obtain ⟨cfd, hH⟩ := hH
    obtain ⟨pfd, hH⟩ := hH
    obtain ⟨mf, hH⟩ := hH
    obtain ⟨flA, hH⟩ := hH
    obtain ⟨stA, hH⟩ := hH
    obtain ⟨sA, hH⟩ := hH
    obtain ⟨bA, hH⟩ := hH
    obtain ⟨rrA, hH⟩ := hH
    obtain ⟨recA, hH⟩ := hH
    obtain ⟨flB, hH⟩ := hH
    obtain ⟨stB, hH⟩ := hH
    obtain ⟨sB, hH⟩ := hH
    obtain ⟨bB, hH⟩ := hH
    obtain ⟨rrB, hH⟩ := hH
    obtain ⟨recB, hH⟩ := hH
    obtain ⟨ran, hH⟩ := hH
    obtain ⟨rr2, hH⟩ := hH
    obtain ⟨rr3, hH⟩ := hH
    obtain ⟨rr4, hH⟩ := hH
    obtain ⟨rt, hH⟩ := hH
    obtain ⟨rpa, hH⟩ := hH
    obtain ⟨lz, hH⟩ := hH
    obtain ⟨can, hH⟩ := hH
    obtain ⟨cts, hH⟩ := hH
    obtain ⟨td, hH⟩ := hH
    obtain ⟨lk, hH⟩ := hH
    obtain ⟨fc, hH⟩ := hH
    obtain ⟨FL, hH⟩ := hH
    obtain ⟨fcf, hH⟩ := hH
    obtain ⟨fpf, hH⟩ := hH
    obtain ⟨htz, hH⟩ := hH
    obtain ⟨hR, hH⟩ := hH
    obtain ⟨hTk, hH⟩ := hH
    obtain ⟨hgo, hH⟩ := hH
    obtain ⟨hmk, hH⟩ := hH
    obtain ⟨hM, hH⟩ := hH
    obtain ⟨hsA, hH⟩ := hH
    obtain ⟨hrA, hH⟩ := hH
    obtain ⟨hmA, hH⟩ := hH
    obtain ⟨hsB, hH⟩ := hH
    obtain ⟨hrB, hH⟩ := hH
    obtain ⟨hmB, hH⟩ := hH
    obtain ⟨hrt, hH⟩ := hH
    obtain ⟨hlz, hH⟩ := hH
    obtain ⟨rfl, rfl, rfl⟩ := hH
    obtain ⟨hc, hL6, hI5⟩ := id hgo
    have hL := gL6_8 hL6
    have hI := gG_up (b' := 7) hI5 (by decide)
    have hkb := gq_kN hmA hmB
    refine gq_goi (wc := [(h0, .inr (8, [.ref a, .int (nI tz), .ref r0, .int fp, .int ld, .ref p0, .ref m0, .null, .ref oA, .ref oB, .ref ra, .ref cu])), (p0, .inr (4, [.int (nI nc), .ref b1, .ref b2, .ref b3])), (b1, .inl (cI, 3, .inl (fun j => nI (L j)))), (b2, .inl (cI, 4, .inl cf)), (b3, .inl (cI, 192, .inl pf))]) (wr := [(a, .inl (cB, 4000, .inl f)), (r0, .inr (6, [.ref d0, .int pv, .int fv, .int lp, .ref k4, .ref k5, .ref k6, .ref k7, .int (nI t), .int tl, .int vr, .int vl])), (k4, .inl (cI, 501, .inl (fun j => nI (Kd j)))), (k5, .inl (cI, 501, .inl sf)), (k6, .inl (cI, 501, .inl nf)), (k7, .inl (cI, 6, .inl (fun j => nI (Tk j)))), (d0, .inr (4, [.int (nI ncd), .ref e1, .ref e2, .ref e3])), (e1, .inl (cI, 3, .inl (fun j => nI (Ld j)))), (e2, .inl (cI, 4, .inl cfd)), (e3, .inl (cI, 192, .inl pfd)), (m0, .inr (3, [.ref ms, .int vst, .int (nI vk), .int vm, .ref md])), (ms, .inr (7, [.ref mw])), (mw, .inl (cI, 34, .inl mf)), (md, .inl (cI, 38, .inl vd)), (oA, .inr (2, [.int 0, .int flA, .int (nI stA), .int (nI sA), .ref bA])), (bA, .inl (cI, rrA, .inl recA)), (oB, .inr (2, [.int 0, .int flB, .int (nI stB), .int (nI sB), .ref bB])), (bB, .inl (cI, rrB, .inl recB)), (ra, .inr (5, [.int 0, .int ran, .int rr2, .int rr3, .int rr4, .int (nI rt), .ref a6])), (a6, .inl (cI, 38, .inl rpa)), (cu, .inr (0, [.ref f0, .int (nI lz), .int can, .ref a3l, .int cts, .ref a5t])), (a3l, .inl (cI, 2, .inl lk)), (a5t, .inl (cI, 2, .inl td)), (f0, .inr (4, [.int fc, .ref g1, .ref g2, .ref g3])), (g1, .inl (cI, 3, .inl (fun j => nI (FL j)))), (g2, .inl (cI, 4, .inl fcf)), (g3, .inl (cI, 192, .inl fpf))]) (va_runV (As := [.int z1, .int z2, .int z3]) (rest := []) ⟨hx, hb, hml, hown, hts⟩ (x_ins8 l D cI cB cZ h0 ld (.ref a) (.int (nI tz)) (.ref r0) (.int fp) (.ref m0) (.null) (.ref oA) (.ref oB) (.ref ra) (.ref cu) p0 b1 b2 b3 nc L cf pf z1 z2 z3 hc hL _) (cwV 3 hts gP_law__x_ins8 rfl rfl rfl (by decide +kernel) ⟨Nat.le_of_ble_eq_true rfl, Nat.le_of_ble_eq_true rfl⟩) (gx_preV (ci := 8) (q0 := 0) hK gN.nil (gq_Pl hP) (gq_Dl hD) [0, 7, 8, 9, 10] rfl rfl rfl rfl) rfl rfl hl.1 rfl (lv_room (Nat.le_of_ble_eq_true rfl)) dL_law_260 ⟨(Nat.le_trans (Nat.add_le_add_right hkb.1 _) (Nat.le_of_ble_eq_true rfl)), (Nat.le_trans (Nat.add_le_add_right hkb.2 _) (Nat.le_of_ble_eq_true rfl))⟩) hP hD hS hA [0, 7, 8, 9, 10] [1, 2, 3, 4, 5, 6, 11, 12, 13, 14, 15, 16, 17, 18, 19, 20, 21, 22, 23, 24, 25, 26, 27, 28, 29, 30, 31] rfl rfl rfl (by decide) (fun r1 w1 H locs hp hP hD hS => ?_)
    obtain ⟨e_1, hp⟩ := hp
    obtain ⟨hx260_0, hp⟩ := hp
    obtain ⟨h9, hp⟩ := hp
    subst hp
    have h9 := h9.symm
    subst h9
    have hx260_0 : rIB ld nc L (fun a b c => pf ((((a * 8) + b) * 8) + c)) z1 z2 z3 e_1 := hx260_0
    have hP : va_P D vwCl ([(a, .inl (cB, 4000, .inl f)), (r0, .inr (6, [.ref d0, .int pv, .int fv, .int lp, .ref k4, .ref k5, .ref k6, .ref k7, .int (nI t), .int tl, .int vr, .int vl])), (k4, .inl (cI, 501, .inl (fun j => nI (Kd j)))), (k5, .inl (cI, 501, .inl sf)), (k6, .inl (cI, 501, .inl nf)), (k7, .inl (cI, 6, .inl (fun j => nI (Tk j)))), (d0, .inr (4, [.int (nI ncd), .ref e1, .ref e2, .ref e3])), (e1, .inl (cI, 3, .inl (fun j => nI (Ld j)))), (e2, .inl (cI, 4, .inl cfd)), (e3, .inl (cI, 192, .inl pfd)), (m0, .inr (3, [.ref ms, .int vst, .int (nI vk), .int vm, .ref md])), (ms, .inr (7, [.ref mw])), (mw, .inl (cI, 34, .inl mf)), (md, .inl (cI, 38, .inl vd)), (oA, .inr (2, [.int 0, .int flA, .int (nI stA), .int (nI sA), .ref bA])), (bA, .inl (cI, rrA, .inl recA)), (oB, .inr (2, [.int 0, .int flB, .int (nI stB), .int (nI sB), .ref bB])), (bB, .inl (cI, rrB, .inl recB)), (ra, .inr (5, [.int 0, .int ran, .int rr2, .int rr3, .int rr4, .int (nI rt), .ref a6])), (a6, .inl (cI, 38, .inl rpa)), (cu, .inr (0, [.ref f0, .int (nI lz), .int can, .ref a3l, .int cts, .ref a5t])), (a3l, .inl (cI, 2, .inl lk)), (a5t, .inl (cI, 2, .inl td)), (f0, .inr (4, [.int fc, .ref g1, .ref g2, .ref g3])), (g1, .inl (cI, 3, .inl (fun j => nI (FL j)))), (g2, .inl (cI, 4, .inl fcf)), (g3, .inl (cI, 192, .inl fpf)), (h0, .inr (8, [.ref a, .int (nI tz), .ref r0, .int fp, .int ld, .ref p0, .ref m0, .null, .ref oA, .ref oB, .ref ra, .ref cu])), (p0, .inr (4, [.int (nI nc), .ref b1, .ref b2, .ref b3])), (b1, .inl (cI, 3, .inl (fun j => nI (L j)))), (b2, .inl (cI, 4, .inl cf)), (b3, .inl (cI, 192, .inl pf))] ++ w9) H := hP
    have hD : va_D A ([(a, .inl (cB, 4000, .inl f)), (r0, .inr (6, [.ref d0, .int pv, .int fv, .int lp, .ref k4, .ref k5, .ref k6, .ref k7, .int (nI t), .int tl, .int vr, .int vl])), (k4, .inl (cI, 501, .inl (fun j => nI (Kd j)))), (k5, .inl (cI, 501, .inl sf)), (k6, .inl (cI, 501, .inl nf)), (k7, .inl (cI, 6, .inl (fun j => nI (Tk j)))), (d0, .inr (4, [.int (nI ncd), .ref e1, .ref e2, .ref e3])), (e1, .inl (cI, 3, .inl (fun j => nI (Ld j)))), (e2, .inl (cI, 4, .inl cfd)), (e3, .inl (cI, 192, .inl pfd)), (m0, .inr (3, [.ref ms, .int vst, .int (nI vk), .int vm, .ref md])), (ms, .inr (7, [.ref mw])), (mw, .inl (cI, 34, .inl mf)), (md, .inl (cI, 38, .inl vd)), (oA, .inr (2, [.int 0, .int flA, .int (nI stA), .int (nI sA), .ref bA])), (bA, .inl (cI, rrA, .inl recA)), (oB, .inr (2, [.int 0, .int flB, .int (nI stB), .int (nI sB), .ref bB])), (bB, .inl (cI, rrB, .inl recB)), (ra, .inr (5, [.int 0, .int ran, .int rr2, .int rr3, .int rr4, .int (nI rt), .ref a6])), (a6, .inl (cI, 38, .inl rpa)), (cu, .inr (0, [.ref f0, .int (nI lz), .int can, .ref a3l, .int cts, .ref a5t])), (a3l, .inl (cI, 2, .inl lk)), (a5t, .inl (cI, 2, .inl td)), (f0, .inr (4, [.int fc, .ref g1, .ref g2, .ref g3])), (g1, .inl (cI, 3, .inl (fun j => nI (FL j)))), (g2, .inl (cI, 4, .inl fcf)), (g3, .inl (cI, 192, .inl fpf)), (h0, .inr (8, [.ref a, .int (nI tz), .ref r0, .int fp, .int ld, .ref p0, .ref m0, .null, .ref oA, .ref oB, .ref ra, .ref cu])), (p0, .inr (4, [.int (nI nc), .ref b1, .ref b2, .ref b3])), (b1, .inl (cI, 3, .inl (fun j => nI (L j)))), (b2, .inl (cI, 4, .inl cf)), (b3, .inl (cI, 192, .inl pf))] ++ w9) := hD
    refine W.widen (k := 63 + (rrA / 17) + (rrB / 17)) (n := 584682 + (2 * rrA + 51000 * (rrA / 51000)) + (2 * rrB + 51000 * (rrB / 51000))) (Nat.le_refl _) (Nat.le_refl _) ?_
    have hP := gq_subP (X' := [(h0, .inr (8, [.ref a, .int (nI tz), .ref r0, .int fp, .int ld, .ref p0, .ref m0, .null, .ref oA, .ref oB, .ref ra, .ref cu])), (a, .inl (cB, 4000, .inl f)), (r0, .inr (6, [.ref d0, .int pv, .int fv, .int lp, .ref k4, .ref k5, .ref k6, .ref k7, .int (nI t), .int tl, .int vr, .int vl])), (k4, .inl (cI, 501, .inl (fun j => nI (Kd j)))), (k5, .inl (cI, 501, .inl sf)), (k6, .inl (cI, 501, .inl nf)), (k7, .inl (cI, 6, .inl (fun j => nI (Tk j)))), (p0, .inr (4, [.int (nI nc), .ref b1, .ref b2, .ref b3])), (b1, .inl (cI, 3, .inl (fun j => nI (L j)))), (b2, .inl (cI, 4, .inl cf)), (b3, .inl (cI, 192, .inl pf)), (d0, .inr (4, [.int (nI ncd), .ref e1, .ref e2, .ref e3])), (e1, .inl (cI, 3, .inl (fun j => nI (Ld j)))), (e2, .inl (cI, 4, .inl cfd)), (e3, .inl (cI, 192, .inl pfd)), (m0, .inr (3, [.ref ms, .int vst, .int (nI vk), .int vm, .ref md])), (ms, .inr (7, [.ref mw])), (mw, .inl (cI, 34, .inl mf)), (md, .inl (cI, 38, .inl vd)), (oA, .inr (2, [.int 0, .int flA, .int (nI stA), .int (nI sA), .ref bA])), (bA, .inl (cI, rrA, .inl recA)), (oB, .inr (2, [.int 0, .int flB, .int (nI stB), .int (nI sB), .ref bB])), (bB, .inl (cI, rrB, .inl recB)), (ra, .inr (5, [.int 0, .int ran, .int rr2, .int rr3, .int rr4, .int (nI rt), .ref a6])), (a6, .inl (cI, 38, .inl rpa)), (cu, .inr (0, [.ref f0, .int (nI lz), .int can, .ref a3l, .int cts, .ref a5t])), (a3l, .inl (cI, 2, .inl lk)), (a5t, .inl (cI, 2, .inl td)), (f0, .inr (4, [.int fc, .ref g1, .ref g2, .ref g3])), (g1, .inl (cI, 3, .inl (fun j => nI (FL j)))), (g2, .inl (cI, 4, .inl fcf)), (g3, .inl (cI, 192, .inl fpf))]) hP [27, 0, 1, 2, 3, 4, 5, 28, 29, 30, 31, 6, 7, 8, 9, 10, 11, 12, 13, 14, 15, 16, 17, 18, 19, 20, 21, 22, 23, 24, 25, 26] rfl
    have hD := gq_subD (X' := [(h0, .inr (8, [.ref a, .int (nI tz), .ref r0, .int fp, .int ld, .ref p0, .ref m0, .null, .ref oA, .ref oB, .ref ra, .ref cu])), (a, .inl (cB, 4000, .inl f)), (r0, .inr (6, [.ref d0, .int pv, .int fv, .int lp, .ref k4, .ref k5, .ref k6, .ref k7, .int (nI t), .int tl, .int vr, .int vl])), (k4, .inl (cI, 501, .inl (fun j => nI (Kd j)))), (k5, .inl (cI, 501, .inl sf)), (k6, .inl (cI, 501, .inl nf)), (k7, .inl (cI, 6, .inl (fun j => nI (Tk j)))), (p0, .inr (4, [.int (nI nc), .ref b1, .ref b2, .ref b3])), (b1, .inl (cI, 3, .inl (fun j => nI (L j)))), (b2, .inl (cI, 4, .inl cf)), (b3, .inl (cI, 192, .inl pf)), (d0, .inr (4, [.int (nI ncd), .ref e1, .ref e2, .ref e3])), (e1, .inl (cI, 3, .inl (fun j => nI (Ld j)))), (e2, .inl (cI, 4, .inl cfd)), (e3, .inl (cI, 192, .inl pfd)), (m0, .inr (3, [.ref ms, .int vst, .int (nI vk), .int vm, .ref md])), (ms, .inr (7, [.ref mw])), (mw, .inl (cI, 34, .inl mf)), (md, .inl (cI, 38, .inl vd)), (oA, .inr (2, [.int 0, .int flA, .int (nI stA), .int (nI sA), .ref bA])), (bA, .inl (cI, rrA, .inl recA)), (oB, .inr (2, [.int 0, .int flB, .int (nI stB), .int (nI sB), .ref bB])), (bB, .inl (cI, rrB, .inl recB)), (ra, .inr (5, [.int 0, .int ran, .int rr2, .int rr3, .int rr4, .int (nI rt), .ref a6])), (a6, .inl (cI, 38, .inl rpa)), (cu, .inr (0, [.ref f0, .int (nI lz), .int can, .ref a3l, .int cts, .ref a5t])), (a3l, .inl (cI, 2, .inl lk)), (a5t, .inl (cI, 2, .inl td)), (f0, .inr (4, [.int fc, .ref g1, .ref g2, .ref g3])), (g1, .inl (cI, 3, .inl (fun j => nI (FL j)))), (g2, .inl (cI, 4, .inl fcf)), (g3, .inl (cI, 192, .inl fpf))]) hD [27, 0, 1, 2, 3, 4, 5, 28, 29, 30, 31, 6, 7, 8, 9, 10, 11, 12, 13, 14, 15, 16, 17, 18, 19, 20, 21, 22, 23, 24, 25, 26] (by decide) rfl
    exact kk e_1 _ tz f fp ld nc L cf pf vst vk vm vd _ _ H locs (Or.inl (HallN_mk cI cB cZ h0 tz f fp ld nc L cf pf vst vk vm vd a r0 k4 k5 k6 k7 p0 b1 b2 b3 d0 e1 e2 e3 m0 ms mw md oA oB ra a6 cu f0 g1 g2 g3 a3l a5t pv fv lp t tl vr vl Kd sf nf Tk ncd Ld cfd pfd mf flA stA sA bA rrA recA flB stB sB bB rrB recB ran rr2 rr3 rr4 rt rpa lz can cts td lk fc FL fcf fpf htz hR hTk hgo hmk hM hsA hrA hmA hsB hrB hmB hrt hlz)) ⟨hx260_0, rfl, rfl, rfl, rfl, rfl, rfl, rfl, rfl, rfl, rfl, rfl, rfl⟩ hP hD hS
  · unfold HallE at hH
    obtain ⟨a, hH⟩ := hH
    obtain ⟨r0, hH⟩ := hH
    obtain ⟨k4, hH⟩ := hH
    obtain ⟨k5, hH⟩ := hH
    obtain ⟨k6, hH⟩ := hH
    obtain ⟨k7, hH⟩ := hH
    obtain ⟨p0, hH⟩ := hH
    obtain ⟨b1, hH⟩ := hH
    obtain ⟨b2, hH⟩ := hH
    obtain ⟨b3, hH⟩ := hH
    obtain ⟨d0, hH⟩ := hH
    obtain ⟨e1, hH⟩ := hH
    obtain ⟨e2, hH⟩ := hH
    obtain ⟨e3, hH⟩ := hH
    obtain ⟨m0, hH⟩ := hH
    obtain ⟨ms, hH⟩ := hH
    obtain ⟨mw, hH⟩ := hH
    obtain ⟨md, hH⟩ := hH
    obtain ⟨oA, hH⟩ := hH
    obtain ⟨oB, hH⟩ := hH
    obtain ⟨ra, hH⟩ := hH
    obtain ⟨a6, hH⟩ := hH
    obtain ⟨cu, hH⟩ := hH
    obtain ⟨f0, hH⟩ := hH
    obtain ⟨g1, hH⟩ := hH
    obtain ⟨g2, hH⟩ := hH
    obtain ⟨g3, hH⟩ := hH
    obtain ⟨a3l, hH⟩ := hH
    obtain ⟨a5t, hH⟩ := hH
    obtain ⟨pv, hH⟩ := hH
    obtain ⟨fv, hH⟩ := hH
    obtain ⟨lp, hH⟩ := hH
    obtain ⟨t, hH⟩ := hH
    obtain ⟨tl, hH⟩ := hH
    obtain ⟨vr, hH⟩ := hH
    obtain ⟨vl, hH⟩ := hH
    obtain ⟨Kd, hH⟩ := hH
    obtain ⟨sf, hH⟩ := hH
    obtain ⟨nf, hH⟩ := hH
    obtain ⟨Tk, hH⟩ := hH
    obtain ⟨ncd, hH⟩ := hH
    obtain ⟨Ld, hH⟩ := hH
    obtain ⟨cfd, hH⟩ := hH
    obtain ⟨pfd, hH⟩ := hH
    obtain ⟨mf, hH⟩ := hH
    obtain ⟨knA, hH⟩ := hH
    obtain ⟨flA, hH⟩ := hH
    obtain ⟨stA, hH⟩ := hH
    obtain ⟨sA, hH⟩ := hH
    obtain ⟨bA, hH⟩ := hH
    obtain ⟨rrA, hH⟩ := hH
    obtain ⟨recA, hH⟩ := hH
    obtain ⟨knB, hH⟩ := hH
    obtain ⟨flB, hH⟩ := hH
    obtain ⟨stB, hH⟩ := hH
    obtain ⟨sB, hH⟩ := hH
    obtain ⟨bB, hH⟩ := hH
    obtain ⟨rrB, hH⟩ := hH
    obtain ⟨recB, hH⟩ := hH
    obtain ⟨rkn, hH⟩ := hH
    obtain ⟨ran, hH⟩ := hH
    obtain ⟨rr2, hH⟩ := hH
    obtain ⟨rr3, hH⟩ := hH
    obtain ⟨rr4, hH⟩ := hH
    obtain ⟨rt, hH⟩ := hH
    obtain ⟨rpa, hH⟩ := hH
    obtain ⟨lz, hH⟩ := hH
    obtain ⟨can, hH⟩ := hH
    obtain ⟨cts, hH⟩ := hH
    obtain ⟨td, hH⟩ := hH
    obtain ⟨lk, hH⟩ := hH
    obtain ⟨fc, hH⟩ := hH
    obtain ⟨FL, hH⟩ := hH
    obtain ⟨fcf, hH⟩ := hH
    obtain ⟨fpf, hH⟩ := hH
    obtain ⟨x0, hH⟩ := hH
    obtain ⟨a2, hH⟩ := hH
    obtain ⟨s4, hH⟩ := hH
    obtain ⟨w4, hH⟩ := hH
    obtain ⟨s5, hH⟩ := hH
    obtain ⟨w5, hH⟩ := hH
    obtain ⟨a8, hH⟩ := hH
    obtain ⟨a9, hH⟩ := hH
    obtain ⟨a3, hH⟩ := hH
    obtain ⟨i0, hH⟩ := hH
    obtain ⟨i1, hH⟩ := hH
    obtain ⟨i6, hH⟩ := hH
    obtain ⟨a7, hH⟩ := hH
    obtain ⟨rl, hH⟩ := hH
    obtain ⟨rf, hH⟩ := hH
    obtain ⟨f4, hH⟩ := hH
    obtain ⟨f5, hH⟩ := hH
    obtain ⟨ef, hH⟩ := hH
    obtain ⟨sl, hH⟩ := hH
    obtain ⟨cm, hH⟩ := hH
    obtain ⟨pp, hH⟩ := hH
    obtain ⟨htz, hH⟩ := hH
    obtain ⟨hR, hH⟩ := hH
    obtain ⟨hTk, hH⟩ := hH
    obtain ⟨hgo, hH⟩ := hH
    obtain ⟨hmk, hH⟩ := hH
    obtain ⟨hM, hH⟩ := hH
    obtain ⟨hsA, hH⟩ := hH
    obtain ⟨hrA, hH⟩ := hH
    obtain ⟨hmA, hH⟩ := hH
    obtain ⟨hsB, hH⟩ := hH
    obtain ⟨hrB, hH⟩ := hH
    obtain ⟨hmB, hH⟩ := hH
    obtain ⟨hrt, hH⟩ := hH
    obtain ⟨hlz, hH⟩ := hH
    obtain ⟨hrl, hH⟩ := hH
    obtain ⟨hrm, hH⟩ := hH
    obtain ⟨rfl, rfl, rfl⟩ := hH
    obtain ⟨hc, hL6, hI5⟩ := id hgo
    have hL := gL6_8 hL6
    have hI := gG_up (b' := 7) hI5 (by decide)
    have hkb := gq_k hmA hmB hrm.2
    refine gq_goi (wc := [(h0, .inr (8, [.ref a, .int (nI tz), .ref r0, .int fp, .int ld, .ref p0, .ref m0, .ref x0, .ref oA, .ref oB, .ref ra, .ref cu])), (p0, .inr (4, [.int (nI nc), .ref b1, .ref b2, .ref b3])), (b1, .inl (cI, 3, .inl (fun j => nI (L j)))), (b2, .inl (cI, 4, .inl cf)), (b3, .inl (cI, 192, .inl pf))]) (wr := [(a, .inl (cB, 4000, .inl f)), (r0, .inr (6, [.ref d0, .int pv, .int fv, .int lp, .ref k4, .ref k5, .ref k6, .ref k7, .int (nI t), .int tl, .int vr, .int vl])), (k4, .inl (cI, 501, .inl (fun j => nI (Kd j)))), (k5, .inl (cI, 501, .inl sf)), (k6, .inl (cI, 501, .inl nf)), (k7, .inl (cI, 6, .inl (fun j => nI (Tk j)))), (d0, .inr (4, [.int (nI ncd), .ref e1, .ref e2, .ref e3])), (e1, .inl (cI, 3, .inl (fun j => nI (Ld j)))), (e2, .inl (cI, 4, .inl cfd)), (e3, .inl (cI, 192, .inl pfd)), (m0, .inr (3, [.ref ms, .int vst, .int (nI vk), .int vm, .ref md])), (ms, .inr (7, [.ref mw])), (mw, .inl (cI, 34, .inl mf)), (md, .inl (cI, 38, .inl vd)), (oA, .inr (2, [.int knA, .int flA, .int (nI stA), .int (nI sA), .ref bA])), (bA, .inl (cI, rrA, .inl recA)), (oB, .inr (2, [.int knB, .int flB, .int (nI stB), .int (nI sB), .ref bB])), (bB, .inl (cI, rrB, .inl recB)), (ra, .inr (5, [.int rkn, .int ran, .int rr2, .int rr3, .int rr4, .int (nI rt), .ref a6])), (a6, .inl (cI, 38, .inl rpa)), (cu, .inr (0, [.ref f0, .int (nI lz), .int can, .ref a3l, .int cts, .ref a5t])), (a3l, .inl (cI, 2, .inl lk)), (a5t, .inl (cI, 2, .inl td)), (f0, .inr (4, [.int fc, .ref g1, .ref g2, .ref g3])), (g1, .inl (cI, 3, .inl (fun j => nI (FL j)))), (g2, .inl (cI, 4, .inl fcf)), (g3, .inl (cI, 192, .inl fpf)), (x0, .inr (1, [.int i0, .int i1, .ref a2, .ref a3, .ref s4, .ref s5, .int i6, .ref a7, .ref a8, .ref a9])), (s4, .inr (7, [.ref w4])), (w4, .inl (cI, 34, .inl f4)), (s5, .inr (7, [.ref w5])), (w5, .inl (cI, 34, .inl f5)), (a2, .inl (cI, 3000, .inl ef)), (a7, .inl (cI, rl, .inl rf)), (a8, .inl (cI, 4096, .inl sl)), (a9, .inl (cI, 3000, .inl cm)), (a3, .inl (cI, 38, .inl pp))]) (va_runV (As := [.int z1, .int z2, .int z3]) (rest := []) ⟨hx, hb, hml, hown, hts⟩ (x_ins8 l D cI cB cZ h0 ld (.ref a) (.int (nI tz)) (.ref r0) (.int fp) (.ref m0) (.ref x0) (.ref oA) (.ref oB) (.ref ra) (.ref cu) p0 b1 b2 b3 nc L cf pf z1 z2 z3 hc hL _) (cwV 3 hts gP_law__x_ins8 rfl rfl rfl (by decide +kernel) ⟨Nat.le_of_ble_eq_true rfl, Nat.le_of_ble_eq_true rfl⟩) (gx_preV (ci := 8) (q0 := 0) hK gN.nil (gq_Pl hP) (gq_Dl hD) [0, 7, 8, 9, 10] rfl rfl rfl rfl) rfl rfl hl.1 rfl (lv_room (Nat.le_of_ble_eq_true rfl)) dL_law_260 ⟨(Nat.le_trans (Nat.add_le_add_right hkb.1 _) (Nat.le_of_ble_eq_true rfl)), (Nat.le_trans (Nat.add_le_add_right hkb.2 _) (Nat.le_of_ble_eq_true rfl))⟩) hP hD hS hA [0, 7, 8, 9, 10] [1, 2, 3, 4, 5, 6, 11, 12, 13, 14, 15, 16, 17, 18, 19, 20, 21, 22, 23, 24, 25, 26, 27, 28, 29, 30, 31, 32, 33, 34, 35, 36, 37, 38, 39, 40, 41] rfl rfl rfl (by decide) (fun r1 w1 H locs hp hP hD hS => ?_)
    obtain ⟨e_1, hp⟩ := hp
    obtain ⟨hx260_0, hp⟩ := hp
    obtain ⟨h9, hp⟩ := hp
    subst hp
    have h9 := h9.symm
    subst h9
    have hx260_0 : rIB ld nc L (fun a b c => pf ((((a * 8) + b) * 8) + c)) z1 z2 z3 e_1 := hx260_0
    have hP : va_P D vwCl ([(a, .inl (cB, 4000, .inl f)), (r0, .inr (6, [.ref d0, .int pv, .int fv, .int lp, .ref k4, .ref k5, .ref k6, .ref k7, .int (nI t), .int tl, .int vr, .int vl])), (k4, .inl (cI, 501, .inl (fun j => nI (Kd j)))), (k5, .inl (cI, 501, .inl sf)), (k6, .inl (cI, 501, .inl nf)), (k7, .inl (cI, 6, .inl (fun j => nI (Tk j)))), (d0, .inr (4, [.int (nI ncd), .ref e1, .ref e2, .ref e3])), (e1, .inl (cI, 3, .inl (fun j => nI (Ld j)))), (e2, .inl (cI, 4, .inl cfd)), (e3, .inl (cI, 192, .inl pfd)), (m0, .inr (3, [.ref ms, .int vst, .int (nI vk), .int vm, .ref md])), (ms, .inr (7, [.ref mw])), (mw, .inl (cI, 34, .inl mf)), (md, .inl (cI, 38, .inl vd)), (oA, .inr (2, [.int knA, .int flA, .int (nI stA), .int (nI sA), .ref bA])), (bA, .inl (cI, rrA, .inl recA)), (oB, .inr (2, [.int knB, .int flB, .int (nI stB), .int (nI sB), .ref bB])), (bB, .inl (cI, rrB, .inl recB)), (ra, .inr (5, [.int rkn, .int ran, .int rr2, .int rr3, .int rr4, .int (nI rt), .ref a6])), (a6, .inl (cI, 38, .inl rpa)), (cu, .inr (0, [.ref f0, .int (nI lz), .int can, .ref a3l, .int cts, .ref a5t])), (a3l, .inl (cI, 2, .inl lk)), (a5t, .inl (cI, 2, .inl td)), (f0, .inr (4, [.int fc, .ref g1, .ref g2, .ref g3])), (g1, .inl (cI, 3, .inl (fun j => nI (FL j)))), (g2, .inl (cI, 4, .inl fcf)), (g3, .inl (cI, 192, .inl fpf)), (x0, .inr (1, [.int i0, .int i1, .ref a2, .ref a3, .ref s4, .ref s5, .int i6, .ref a7, .ref a8, .ref a9])), (s4, .inr (7, [.ref w4])), (w4, .inl (cI, 34, .inl f4)), (s5, .inr (7, [.ref w5])), (w5, .inl (cI, 34, .inl f5)), (a2, .inl (cI, 3000, .inl ef)), (a7, .inl (cI, rl, .inl rf)), (a8, .inl (cI, 4096, .inl sl)), (a9, .inl (cI, 3000, .inl cm)), (a3, .inl (cI, 38, .inl pp)), (h0, .inr (8, [.ref a, .int (nI tz), .ref r0, .int fp, .int ld, .ref p0, .ref m0, .ref x0, .ref oA, .ref oB, .ref ra, .ref cu])), (p0, .inr (4, [.int (nI nc), .ref b1, .ref b2, .ref b3])), (b1, .inl (cI, 3, .inl (fun j => nI (L j)))), (b2, .inl (cI, 4, .inl cf)), (b3, .inl (cI, 192, .inl pf))] ++ w9) H := hP
    have hD : va_D A ([(a, .inl (cB, 4000, .inl f)), (r0, .inr (6, [.ref d0, .int pv, .int fv, .int lp, .ref k4, .ref k5, .ref k6, .ref k7, .int (nI t), .int tl, .int vr, .int vl])), (k4, .inl (cI, 501, .inl (fun j => nI (Kd j)))), (k5, .inl (cI, 501, .inl sf)), (k6, .inl (cI, 501, .inl nf)), (k7, .inl (cI, 6, .inl (fun j => nI (Tk j)))), (d0, .inr (4, [.int (nI ncd), .ref e1, .ref e2, .ref e3])), (e1, .inl (cI, 3, .inl (fun j => nI (Ld j)))), (e2, .inl (cI, 4, .inl cfd)), (e3, .inl (cI, 192, .inl pfd)), (m0, .inr (3, [.ref ms, .int vst, .int (nI vk), .int vm, .ref md])), (ms, .inr (7, [.ref mw])), (mw, .inl (cI, 34, .inl mf)), (md, .inl (cI, 38, .inl vd)), (oA, .inr (2, [.int knA, .int flA, .int (nI stA), .int (nI sA), .ref bA])), (bA, .inl (cI, rrA, .inl recA)), (oB, .inr (2, [.int knB, .int flB, .int (nI stB), .int (nI sB), .ref bB])), (bB, .inl (cI, rrB, .inl recB)), (ra, .inr (5, [.int rkn, .int ran, .int rr2, .int rr3, .int rr4, .int (nI rt), .ref a6])), (a6, .inl (cI, 38, .inl rpa)), (cu, .inr (0, [.ref f0, .int (nI lz), .int can, .ref a3l, .int cts, .ref a5t])), (a3l, .inl (cI, 2, .inl lk)), (a5t, .inl (cI, 2, .inl td)), (f0, .inr (4, [.int fc, .ref g1, .ref g2, .ref g3])), (g1, .inl (cI, 3, .inl (fun j => nI (FL j)))), (g2, .inl (cI, 4, .inl fcf)), (g3, .inl (cI, 192, .inl fpf)), (x0, .inr (1, [.int i0, .int i1, .ref a2, .ref a3, .ref s4, .ref s5, .int i6, .ref a7, .ref a8, .ref a9])), (s4, .inr (7, [.ref w4])), (w4, .inl (cI, 34, .inl f4)), (s5, .inr (7, [.ref w5])), (w5, .inl (cI, 34, .inl f5)), (a2, .inl (cI, 3000, .inl ef)), (a7, .inl (cI, rl, .inl rf)), (a8, .inl (cI, 4096, .inl sl)), (a9, .inl (cI, 3000, .inl cm)), (a3, .inl (cI, 38, .inl pp)), (h0, .inr (8, [.ref a, .int (nI tz), .ref r0, .int fp, .int ld, .ref p0, .ref m0, .ref x0, .ref oA, .ref oB, .ref ra, .ref cu])), (p0, .inr (4, [.int (nI nc), .ref b1, .ref b2, .ref b3])), (b1, .inl (cI, 3, .inl (fun j => nI (L j)))), (b2, .inl (cI, 4, .inl cf)), (b3, .inl (cI, 192, .inl pf))] ++ w9) := hD
    refine W.widen (k := 63 + (rrA / 17) + (rrB / 17) + 10 + ((rl - 1600) / 4800)) (n := 584682 + (2 * rrA + 51000 * (rrA / 51000)) + (2 * rrB + 51000 * (rrB / 51000)) + 11814 + (2 * (rl - 1600))) (Nat.le_refl _) (Nat.le_refl _) ?_
    have hP := gq_subP (X' := [(h0, .inr (8, [.ref a, .int (nI tz), .ref r0, .int fp, .int ld, .ref p0, .ref m0, .ref x0, .ref oA, .ref oB, .ref ra, .ref cu])), (a, .inl (cB, 4000, .inl f)), (r0, .inr (6, [.ref d0, .int pv, .int fv, .int lp, .ref k4, .ref k5, .ref k6, .ref k7, .int (nI t), .int tl, .int vr, .int vl])), (k4, .inl (cI, 501, .inl (fun j => nI (Kd j)))), (k5, .inl (cI, 501, .inl sf)), (k6, .inl (cI, 501, .inl nf)), (k7, .inl (cI, 6, .inl (fun j => nI (Tk j)))), (p0, .inr (4, [.int (nI nc), .ref b1, .ref b2, .ref b3])), (b1, .inl (cI, 3, .inl (fun j => nI (L j)))), (b2, .inl (cI, 4, .inl cf)), (b3, .inl (cI, 192, .inl pf)), (d0, .inr (4, [.int (nI ncd), .ref e1, .ref e2, .ref e3])), (e1, .inl (cI, 3, .inl (fun j => nI (Ld j)))), (e2, .inl (cI, 4, .inl cfd)), (e3, .inl (cI, 192, .inl pfd)), (m0, .inr (3, [.ref ms, .int vst, .int (nI vk), .int vm, .ref md])), (ms, .inr (7, [.ref mw])), (mw, .inl (cI, 34, .inl mf)), (md, .inl (cI, 38, .inl vd)), (oA, .inr (2, [.int knA, .int flA, .int (nI stA), .int (nI sA), .ref bA])), (bA, .inl (cI, rrA, .inl recA)), (oB, .inr (2, [.int knB, .int flB, .int (nI stB), .int (nI sB), .ref bB])), (bB, .inl (cI, rrB, .inl recB)), (ra, .inr (5, [.int rkn, .int ran, .int rr2, .int rr3, .int rr4, .int (nI rt), .ref a6])), (a6, .inl (cI, 38, .inl rpa)), (cu, .inr (0, [.ref f0, .int (nI lz), .int can, .ref a3l, .int cts, .ref a5t])), (a3l, .inl (cI, 2, .inl lk)), (a5t, .inl (cI, 2, .inl td)), (f0, .inr (4, [.int fc, .ref g1, .ref g2, .ref g3])), (g1, .inl (cI, 3, .inl (fun j => nI (FL j)))), (g2, .inl (cI, 4, .inl fcf)), (g3, .inl (cI, 192, .inl fpf)), (x0, .inr (1, [.int i0, .int i1, .ref a2, .ref a3, .ref s4, .ref s5, .int i6, .ref a7, .ref a8, .ref a9])), (s4, .inr (7, [.ref w4])), (w4, .inl (cI, 34, .inl f4)), (s5, .inr (7, [.ref w5])), (w5, .inl (cI, 34, .inl f5)), (a2, .inl (cI, 3000, .inl ef)), (a7, .inl (cI, rl, .inl rf)), (a8, .inl (cI, 4096, .inl sl)), (a9, .inl (cI, 3000, .inl cm)), (a3, .inl (cI, 38, .inl pp))]) hP [37, 0, 1, 2, 3, 4, 5, 38, 39, 40, 41, 6, 7, 8, 9, 10, 11, 12, 13, 14, 15, 16, 17, 18, 19, 20, 21, 22, 23, 24, 25, 26, 27, 28, 29, 30, 31, 32, 33, 34, 35, 36] rfl
    have hD := gq_subD (X' := [(h0, .inr (8, [.ref a, .int (nI tz), .ref r0, .int fp, .int ld, .ref p0, .ref m0, .ref x0, .ref oA, .ref oB, .ref ra, .ref cu])), (a, .inl (cB, 4000, .inl f)), (r0, .inr (6, [.ref d0, .int pv, .int fv, .int lp, .ref k4, .ref k5, .ref k6, .ref k7, .int (nI t), .int tl, .int vr, .int vl])), (k4, .inl (cI, 501, .inl (fun j => nI (Kd j)))), (k5, .inl (cI, 501, .inl sf)), (k6, .inl (cI, 501, .inl nf)), (k7, .inl (cI, 6, .inl (fun j => nI (Tk j)))), (p0, .inr (4, [.int (nI nc), .ref b1, .ref b2, .ref b3])), (b1, .inl (cI, 3, .inl (fun j => nI (L j)))), (b2, .inl (cI, 4, .inl cf)), (b3, .inl (cI, 192, .inl pf)), (d0, .inr (4, [.int (nI ncd), .ref e1, .ref e2, .ref e3])), (e1, .inl (cI, 3, .inl (fun j => nI (Ld j)))), (e2, .inl (cI, 4, .inl cfd)), (e3, .inl (cI, 192, .inl pfd)), (m0, .inr (3, [.ref ms, .int vst, .int (nI vk), .int vm, .ref md])), (ms, .inr (7, [.ref mw])), (mw, .inl (cI, 34, .inl mf)), (md, .inl (cI, 38, .inl vd)), (oA, .inr (2, [.int knA, .int flA, .int (nI stA), .int (nI sA), .ref bA])), (bA, .inl (cI, rrA, .inl recA)), (oB, .inr (2, [.int knB, .int flB, .int (nI stB), .int (nI sB), .ref bB])), (bB, .inl (cI, rrB, .inl recB)), (ra, .inr (5, [.int rkn, .int ran, .int rr2, .int rr3, .int rr4, .int (nI rt), .ref a6])), (a6, .inl (cI, 38, .inl rpa)), (cu, .inr (0, [.ref f0, .int (nI lz), .int can, .ref a3l, .int cts, .ref a5t])), (a3l, .inl (cI, 2, .inl lk)), (a5t, .inl (cI, 2, .inl td)), (f0, .inr (4, [.int fc, .ref g1, .ref g2, .ref g3])), (g1, .inl (cI, 3, .inl (fun j => nI (FL j)))), (g2, .inl (cI, 4, .inl fcf)), (g3, .inl (cI, 192, .inl fpf)), (x0, .inr (1, [.int i0, .int i1, .ref a2, .ref a3, .ref s4, .ref s5, .int i6, .ref a7, .ref a8, .ref a9])), (s4, .inr (7, [.ref w4])), (w4, .inl (cI, 34, .inl f4)), (s5, .inr (7, [.ref w5])), (w5, .inl (cI, 34, .inl f5)), (a2, .inl (cI, 3000, .inl ef)), (a7, .inl (cI, rl, .inl rf)), (a8, .inl (cI, 4096, .inl sl)), (a9, .inl (cI, 3000, .inl cm)), (a3, .inl (cI, 38, .inl pp))]) hD [37, 0, 1, 2, 3, 4, 5, 38, 39, 40, 41, 6, 7, 8, 9, 10, 11, 12, 13, 14, 15, 16, 17, 18, 19, 20, 21, 22, 23, 24, 25, 26, 27, 28, 29, 30, 31, 32, 33, 34, 35, 36] (by decide) rfl
    exact kk e_1 _ tz f fp ld nc L cf pf vst vk vm vd _ _ H locs (Or.inr (HallE_mk cI cB cZ h0 tz f fp ld nc L cf pf vst vk vm vd a r0 k4 k5 k6 k7 p0 b1 b2 b3 d0 e1 e2 e3 m0 ms mw md oA oB ra a6 cu f0 g1 g2 g3 a3l a5t pv fv lp t tl vr vl Kd sf nf Tk ncd Ld cfd pfd mf knA flA stA sA bA rrA recA knB flB stB sB bB rrB recB rkn ran rr2 rr3 rr4 rt rpa lz can cts td lk fc FL fcf fpf x0 a2 s4 w4 s5 w5 a8 a9 a3 i0 i1 i6 a7 rl rf f4 f5 ef sl cm pp htz hR hTk hgo hmk hM hsA hrA hmA hsB hrB hmB hrt hlz hrl hrm)) ⟨hx260_0, rfl, rfl, rfl, rfl, rfl, rfl, rfl, rfl, rfl, rfl, rfl, rfl⟩ hP hD hS
set_option maxHeartbeats 4000000 in
set_option maxRecDepth 100000 in
theorem hl_begin {p : Program} {l : Launch} {e : Env} {s : State} {m : MethodId} {below : List Frame} {meth : Method} {c : Code} {b : Nat} {A : Nat → Prop} {Q : State → Prop} {D : va_G} {cI cB cZ : ClassId} {K : gKS} (G : gL p s m c b A D cI cB cZ K) {H : Heap} {locs : List Loc} {ls : Array Slot} {w8 w9 : va_W} {h0 tz kc ns : Nat} {f : Nat → Int32} {fp ld : Int32} {nc : Nat} {L : Nat → Nat} {cf : Nat → Int32} {pf : Nat → Int32} {vst : Int32} {vk : Nat} {vm : Int32} {vd : Nat → Int32} (hH : HallI cI cB cZ h0 w8 tz f fp ld nc L cf pf vst vk vm vd kc ns) (hP : va_P D vwCl (w8 ++ w9) H) (hD : va_D A (w8 ++ w9)) (hS : va_S A s.heap H locs) (hl : ls.size = 4 ∧ True) (z1 : Int32) (kk : ∀ (r : Int32) (w8' : va_W) (tz9 : Nat) (f9 : Nat → Int32) (fp9 ld9 : Int32) (nc9 : Nat) (L9 : Nat → Nat) (cf9 : Nat → Int32) (pf9 : Nat → Int32) (vst9 : Int32) (vk9 : Nat) (vm9 : Int32) (vd9 : Nat → Int32) (kc9 ns9 : Nat) (H1 : Heap) (locs1 : List Loc), HallI cI cB cZ h0 w8' tz9 f9 fp9 ld9 nc9 L9 cf9 pf9 vst9 vk9 vm9 vd9 kc9 ns9 → ((((r = 1 ∧ ¬ ld = 0 ∧ (z1 = 0 ∨ z1 = 1)) ∨ (r = 0 ∧ ¬ (¬ ld = 0 ∧ (z1 = 0 ∨ z1 = 1)))) ∧ ((r = 0 ∧ vst9 = vst ∧ vk9 = vk ∧ vm9 = vm) ∨ (r = 1 ∧ vst9 = 1 ∧ vk9 = 0 ∧ vm9 = z1))) ∧ tz = tz9 ∧ f = f9 ∧ fp = fp9 ∧ ld = ld9 ∧ nc = nc9 ∧ L = L9 ∧ cf = cf9 ∧ pf = pf9 ∧ vd = vd9) → va_P D vwCl (w8' ++ w9) H1 → va_D A (w8' ++ w9) → va_S A s.heap H1 locs1 → W p l e room_1 s m #[Value.ref b] below meth c H1 locs1 kc9 ns9 Q (F0 m 296 ls [.int r])) : W p l e room_1 s m #[Value.ref b] below meth c H locs kc ns Q (F0 m 293 ls [.int z1, .ref h0]) := by
  obtain ⟨hx, hb, hml, hown, hts, hA, hK, hN, hE⟩ := G
  rcases hH with hH | hH
  · unfold HallN at hH
    obtain ⟨a, hH⟩ := hH
    obtain ⟨r0, hH⟩ := hH
    obtain ⟨k4, hH⟩ := hH
    obtain ⟨k5, hH⟩ := hH
    obtain ⟨k6, hH⟩ := hH
    obtain ⟨k7, hH⟩ := hH
    obtain ⟨p0, hH⟩ := hH
    obtain ⟨b1, hH⟩ := hH
    obtain ⟨b2, hH⟩ := hH
    obtain ⟨b3, hH⟩ := hH
    obtain ⟨d0, hH⟩ := hH
    obtain ⟨e1, hH⟩ := hH
    obtain ⟨e2, hH⟩ := hH
    obtain ⟨e3, hH⟩ := hH
    obtain ⟨m0, hH⟩ := hH
    obtain ⟨ms, hH⟩ := hH
    obtain ⟨mw, hH⟩ := hH
    obtain ⟨md, hH⟩ := hH
    obtain ⟨oA, hH⟩ := hH
    obtain ⟨oB, hH⟩ := hH
    obtain ⟨ra, hH⟩ := hH
    obtain ⟨a6, hH⟩ := hH
    obtain ⟨cu, hH⟩ := hH
    obtain ⟨f0, hH⟩ := hH
    obtain ⟨g1, hH⟩ := hH
    obtain ⟨g2, hH⟩ := hH
    obtain ⟨g3, hH⟩ := hH
    obtain ⟨a3l, hH⟩ := hH
    obtain ⟨a5t, hH⟩ := hH
    obtain ⟨pv, hH⟩ := hH
    obtain ⟨fv, hH⟩ := hH
    obtain ⟨lp, hH⟩ := hH
    obtain ⟨t, hH⟩ := hH
    obtain ⟨tl, hH⟩ := hH
    obtain ⟨vr, hH⟩ := hH
    obtain ⟨vl, hH⟩ := hH
    obtain ⟨Kd, hH⟩ := hH
    obtain ⟨sf, hH⟩ := hH
    obtain ⟨nf, hH⟩ := hH
    obtain ⟨Tk, hH⟩ := hH
    obtain ⟨ncd, hH⟩ := hH
    obtain ⟨Ld, hH⟩ := hH
    obtain ⟨cfd, hH⟩ := hH
    obtain ⟨pfd, hH⟩ := hH
    obtain ⟨mf, hH⟩ := hH
    obtain ⟨flA, hH⟩ := hH
    obtain ⟨stA, hH⟩ := hH
    obtain ⟨sA, hH⟩ := hH
    obtain ⟨bA, hH⟩ := hH
    obtain ⟨rrA, hH⟩ := hH
    obtain ⟨recA, hH⟩ := hH
    obtain ⟨flB, hH⟩ := hH
    obtain ⟨stB, hH⟩ := hH
    obtain ⟨sB, hH⟩ := hH
    obtain ⟨bB, hH⟩ := hH
    obtain ⟨rrB, hH⟩ := hH
    obtain ⟨recB, hH⟩ := hH
    obtain ⟨ran, hH⟩ := hH
    obtain ⟨rr2, hH⟩ := hH
    obtain ⟨rr3, hH⟩ := hH
    obtain ⟨rr4, hH⟩ := hH
    obtain ⟨rt, hH⟩ := hH
    obtain ⟨rpa, hH⟩ := hH
    obtain ⟨lz, hH⟩ := hH
    obtain ⟨can, hH⟩ := hH
    obtain ⟨cts, hH⟩ := hH
    obtain ⟨td, hH⟩ := hH
    obtain ⟨lk, hH⟩ := hH
    obtain ⟨fc, hH⟩ := hH
    obtain ⟨FL, hH⟩ := hH
    obtain ⟨fcf, hH⟩ := hH
    obtain ⟨fpf, hH⟩ := hH
    obtain ⟨htz, hH⟩ := hH
    obtain ⟨hR, hH⟩ := hH
    obtain ⟨hTk, hH⟩ := hH
    obtain ⟨hgo, hH⟩ := hH
    obtain ⟨hmk, hH⟩ := hH
    obtain ⟨hM, hH⟩ := hH
    obtain ⟨hsA, hH⟩ := hH
    obtain ⟨hrA, hH⟩ := hH
    obtain ⟨hmA, hH⟩ := hH
    obtain ⟨hsB, hH⟩ := hH
    obtain ⟨hrB, hH⟩ := hH
    obtain ⟨hmB, hH⟩ := hH
    obtain ⟨hrt, hH⟩ := hH
    obtain ⟨hlz, hH⟩ := hH
    obtain ⟨rfl, rfl, rfl⟩ := hH
    obtain ⟨hc, hL6, hI5⟩ := id hgo
    have hL := gL6_8 hL6
    have hI := gG_up (b' := 7) hI5 (by decide)
    have hkb := gq_kN hmA hmB
    refine gq_goi (wc := [(h0, .inr (8, [.ref a, .int (nI tz), .ref r0, .int fp, .int ld, .ref p0, .ref m0, .null, .ref oA, .ref oB, .ref ra, .ref cu])), (m0, .inr (3, [.ref ms, .int vst, .int (nI vk), .int vm, .ref md])), (ms, .inr (7, [.ref mw])), (mw, .inl (cI, 34, .inl mf)), (md, .inl (cI, 38, .inl vd)), (p0, .inr (4, [.int (nI nc), .ref b1, .ref b2, .ref b3])), (b1, .inl (cI, 3, .inl (fun j => nI (L j)))), (b2, .inl (cI, 4, .inl cf)), (b3, .inl (cI, 192, .inl pf))]) (wr := [(a, .inl (cB, 4000, .inl f)), (r0, .inr (6, [.ref d0, .int pv, .int fv, .int lp, .ref k4, .ref k5, .ref k6, .ref k7, .int (nI t), .int tl, .int vr, .int vl])), (k4, .inl (cI, 501, .inl (fun j => nI (Kd j)))), (k5, .inl (cI, 501, .inl sf)), (k6, .inl (cI, 501, .inl nf)), (k7, .inl (cI, 6, .inl (fun j => nI (Tk j)))), (d0, .inr (4, [.int (nI ncd), .ref e1, .ref e2, .ref e3])), (e1, .inl (cI, 3, .inl (fun j => nI (Ld j)))), (e2, .inl (cI, 4, .inl cfd)), (e3, .inl (cI, 192, .inl pfd)), (oA, .inr (2, [.int 0, .int flA, .int (nI stA), .int (nI sA), .ref bA])), (bA, .inl (cI, rrA, .inl recA)), (oB, .inr (2, [.int 0, .int flB, .int (nI stB), .int (nI sB), .ref bB])), (bB, .inl (cI, rrB, .inl recB)), (ra, .inr (5, [.int 0, .int ran, .int rr2, .int rr3, .int rr4, .int (nI rt), .ref a6])), (a6, .inl (cI, 38, .inl rpa)), (cu, .inr (0, [.ref f0, .int (nI lz), .int can, .ref a3l, .int cts, .ref a5t])), (a3l, .inl (cI, 2, .inl lk)), (a5t, .inl (cI, 2, .inl td)), (f0, .inr (4, [.int fc, .ref g1, .ref g2, .ref g3])), (g1, .inl (cI, 3, .inl (fun j => nI (FL j)))), (g2, .inl (cI, 4, .inl fcf)), (g3, .inl (cI, 192, .inl fpf))]) (va_runV (As := [.int z1]) (rest := []) ⟨hx, hb, hml, hown, hts⟩ (y_begin8 l D cI cB cZ h0 ld (.ref a) (.int (nI tz)) (.ref r0) (.int fp) (.null) (.ref oA) (.ref oB) (.ref ra) (.ref cu) m0 ms mw md vst vk vm mf vd p0 b1 b2 b3 nc L cf pf z1 hc hL hI hmk hM _) (cwV 1 hts gP_law__y_begin8 rfl rfl rfl (by decide +kernel) ⟨Nat.le_of_ble_eq_true rfl, Nat.le_of_ble_eq_true rfl⟩) (gx_preV (ci := 8) (q0 := 0) hK gN.nil (gq_Pl hP) (gq_Dl hD) [0, 15, 16, 17, 18, 7, 8, 9, 10] rfl rfl rfl rfl) rfl rfl hl.1 rfl (lv_room (Nat.le_of_ble_eq_true rfl)) dL_law_293 ⟨(Nat.le_trans (Nat.add_le_add_right hkb.1 _) (Nat.le_of_ble_eq_true rfl)), (Nat.le_trans (Nat.add_le_add_right hkb.2 _) (Nat.le_of_ble_eq_true rfl))⟩) hP hD hS hA [0, 15, 16, 17, 18, 7, 8, 9, 10] [1, 2, 3, 4, 5, 6, 11, 12, 13, 14, 19, 20, 21, 22, 23, 24, 25, 26, 27, 28, 29, 30, 31] rfl rfl rfl (by decide) (fun r1 w1 H locs hp hP hD hS => ?_)
    obtain ⟨e_1, hp⟩ := hp
    obtain ⟨e_2, hp⟩ := hp
    obtain ⟨e_3, hp⟩ := hp
    obtain ⟨e_4, hp⟩ := hp
    obtain ⟨e_5, hp⟩ := hp
    obtain ⟨hq_6, hp⟩ := hp
    obtain ⟨hq_7, hp⟩ := hp
    obtain ⟨hq_8, hp⟩ := hp
    obtain ⟨hx293_0, hp⟩ := hp
    obtain ⟨hx293_1, hp⟩ := hp
    obtain ⟨h9, hp⟩ := hp
    subst hp
    have h9 := h9.symm
    subst h9
    have hq_6 : gZ e_1 := hq_6
    have hq_7 : e_3 ≤ 38 := hq_7
    have hq_8 : gMs e_2 pf cf e_4 vd L nc e_3 e_5 := hq_8
    have hx293_0 : (e_1 = 1 ∧ ¬ ld = 0 ∧ (z1 = 0 ∨ z1 = 1)) ∨ (e_1 = 0 ∧ ¬ (¬ ld = 0 ∧ (z1 = 0 ∨ z1 = 1))) := hx293_0
    have hx293_1 : (e_1 = 0 ∧ e_2 = vst ∧ e_3 = vk ∧ e_4 = vm) ∨ (e_1 = 1 ∧ e_2 = 1 ∧ e_3 = 0 ∧ e_4 = z1) := hx293_1
    have hP : va_P D vwCl ([(a, .inl (cB, 4000, .inl f)), (r0, .inr (6, [.ref d0, .int pv, .int fv, .int lp, .ref k4, .ref k5, .ref k6, .ref k7, .int (nI t), .int tl, .int vr, .int vl])), (k4, .inl (cI, 501, .inl (fun j => nI (Kd j)))), (k5, .inl (cI, 501, .inl sf)), (k6, .inl (cI, 501, .inl nf)), (k7, .inl (cI, 6, .inl (fun j => nI (Tk j)))), (d0, .inr (4, [.int (nI ncd), .ref e1, .ref e2, .ref e3])), (e1, .inl (cI, 3, .inl (fun j => nI (Ld j)))), (e2, .inl (cI, 4, .inl cfd)), (e3, .inl (cI, 192, .inl pfd)), (oA, .inr (2, [.int 0, .int flA, .int (nI stA), .int (nI sA), .ref bA])), (bA, .inl (cI, rrA, .inl recA)), (oB, .inr (2, [.int 0, .int flB, .int (nI stB), .int (nI sB), .ref bB])), (bB, .inl (cI, rrB, .inl recB)), (ra, .inr (5, [.int 0, .int ran, .int rr2, .int rr3, .int rr4, .int (nI rt), .ref a6])), (a6, .inl (cI, 38, .inl rpa)), (cu, .inr (0, [.ref f0, .int (nI lz), .int can, .ref a3l, .int cts, .ref a5t])), (a3l, .inl (cI, 2, .inl lk)), (a5t, .inl (cI, 2, .inl td)), (f0, .inr (4, [.int fc, .ref g1, .ref g2, .ref g3])), (g1, .inl (cI, 3, .inl (fun j => nI (FL j)))), (g2, .inl (cI, 4, .inl fcf)), (g3, .inl (cI, 192, .inl fpf)), (h0, .inr (8, [.ref a, .int (nI tz), .ref r0, .int fp, .int ld, .ref p0, .ref m0, .null, .ref oA, .ref oB, .ref ra, .ref cu])), (m0, .inr (3, [.ref ms, .int e_2, .int (nI e_3), .int e_4, .ref md])), (ms, .inr (7, [.ref mw])), (mw, .inl (cI, 34, .inl e_5)), (md, .inl (cI, 38, .inl vd)), (p0, .inr (4, [.int (nI nc), .ref b1, .ref b2, .ref b3])), (b1, .inl (cI, 3, .inl (fun j => nI (L j)))), (b2, .inl (cI, 4, .inl cf)), (b3, .inl (cI, 192, .inl pf))] ++ w9) H := hP
    have hD : va_D A ([(a, .inl (cB, 4000, .inl f)), (r0, .inr (6, [.ref d0, .int pv, .int fv, .int lp, .ref k4, .ref k5, .ref k6, .ref k7, .int (nI t), .int tl, .int vr, .int vl])), (k4, .inl (cI, 501, .inl (fun j => nI (Kd j)))), (k5, .inl (cI, 501, .inl sf)), (k6, .inl (cI, 501, .inl nf)), (k7, .inl (cI, 6, .inl (fun j => nI (Tk j)))), (d0, .inr (4, [.int (nI ncd), .ref e1, .ref e2, .ref e3])), (e1, .inl (cI, 3, .inl (fun j => nI (Ld j)))), (e2, .inl (cI, 4, .inl cfd)), (e3, .inl (cI, 192, .inl pfd)), (oA, .inr (2, [.int 0, .int flA, .int (nI stA), .int (nI sA), .ref bA])), (bA, .inl (cI, rrA, .inl recA)), (oB, .inr (2, [.int 0, .int flB, .int (nI stB), .int (nI sB), .ref bB])), (bB, .inl (cI, rrB, .inl recB)), (ra, .inr (5, [.int 0, .int ran, .int rr2, .int rr3, .int rr4, .int (nI rt), .ref a6])), (a6, .inl (cI, 38, .inl rpa)), (cu, .inr (0, [.ref f0, .int (nI lz), .int can, .ref a3l, .int cts, .ref a5t])), (a3l, .inl (cI, 2, .inl lk)), (a5t, .inl (cI, 2, .inl td)), (f0, .inr (4, [.int fc, .ref g1, .ref g2, .ref g3])), (g1, .inl (cI, 3, .inl (fun j => nI (FL j)))), (g2, .inl (cI, 4, .inl fcf)), (g3, .inl (cI, 192, .inl fpf)), (h0, .inr (8, [.ref a, .int (nI tz), .ref r0, .int fp, .int ld, .ref p0, .ref m0, .null, .ref oA, .ref oB, .ref ra, .ref cu])), (m0, .inr (3, [.ref ms, .int e_2, .int (nI e_3), .int e_4, .ref md])), (ms, .inr (7, [.ref mw])), (mw, .inl (cI, 34, .inl e_5)), (md, .inl (cI, 38, .inl vd)), (p0, .inr (4, [.int (nI nc), .ref b1, .ref b2, .ref b3])), (b1, .inl (cI, 3, .inl (fun j => nI (L j)))), (b2, .inl (cI, 4, .inl cf)), (b3, .inl (cI, 192, .inl pf))] ++ w9) := hD
    refine W.widen (k := 63 + (rrA / 17) + (rrB / 17)) (n := 584682 + (2 * rrA + 51000 * (rrA / 51000)) + (2 * rrB + 51000 * (rrB / 51000))) (Nat.le_refl _) (Nat.le_refl _) ?_
    have hP := gq_subP (X' := [(h0, .inr (8, [.ref a, .int (nI tz), .ref r0, .int fp, .int ld, .ref p0, .ref m0, .null, .ref oA, .ref oB, .ref ra, .ref cu])), (a, .inl (cB, 4000, .inl f)), (r0, .inr (6, [.ref d0, .int pv, .int fv, .int lp, .ref k4, .ref k5, .ref k6, .ref k7, .int (nI t), .int tl, .int vr, .int vl])), (k4, .inl (cI, 501, .inl (fun j => nI (Kd j)))), (k5, .inl (cI, 501, .inl sf)), (k6, .inl (cI, 501, .inl nf)), (k7, .inl (cI, 6, .inl (fun j => nI (Tk j)))), (p0, .inr (4, [.int (nI nc), .ref b1, .ref b2, .ref b3])), (b1, .inl (cI, 3, .inl (fun j => nI (L j)))), (b2, .inl (cI, 4, .inl cf)), (b3, .inl (cI, 192, .inl pf)), (d0, .inr (4, [.int (nI ncd), .ref e1, .ref e2, .ref e3])), (e1, .inl (cI, 3, .inl (fun j => nI (Ld j)))), (e2, .inl (cI, 4, .inl cfd)), (e3, .inl (cI, 192, .inl pfd)), (m0, .inr (3, [.ref ms, .int e_2, .int (nI e_3), .int e_4, .ref md])), (ms, .inr (7, [.ref mw])), (mw, .inl (cI, 34, .inl e_5)), (md, .inl (cI, 38, .inl vd)), (oA, .inr (2, [.int 0, .int flA, .int (nI stA), .int (nI sA), .ref bA])), (bA, .inl (cI, rrA, .inl recA)), (oB, .inr (2, [.int 0, .int flB, .int (nI stB), .int (nI sB), .ref bB])), (bB, .inl (cI, rrB, .inl recB)), (ra, .inr (5, [.int 0, .int ran, .int rr2, .int rr3, .int rr4, .int (nI rt), .ref a6])), (a6, .inl (cI, 38, .inl rpa)), (cu, .inr (0, [.ref f0, .int (nI lz), .int can, .ref a3l, .int cts, .ref a5t])), (a3l, .inl (cI, 2, .inl lk)), (a5t, .inl (cI, 2, .inl td)), (f0, .inr (4, [.int fc, .ref g1, .ref g2, .ref g3])), (g1, .inl (cI, 3, .inl (fun j => nI (FL j)))), (g2, .inl (cI, 4, .inl fcf)), (g3, .inl (cI, 192, .inl fpf))]) hP [23, 0, 1, 2, 3, 4, 5, 28, 29, 30, 31, 6, 7, 8, 9, 24, 25, 26, 27, 10, 11, 12, 13, 14, 15, 16, 17, 18, 19, 20, 21, 22] rfl
    have hD := gq_subD (X' := [(h0, .inr (8, [.ref a, .int (nI tz), .ref r0, .int fp, .int ld, .ref p0, .ref m0, .null, .ref oA, .ref oB, .ref ra, .ref cu])), (a, .inl (cB, 4000, .inl f)), (r0, .inr (6, [.ref d0, .int pv, .int fv, .int lp, .ref k4, .ref k5, .ref k6, .ref k7, .int (nI t), .int tl, .int vr, .int vl])), (k4, .inl (cI, 501, .inl (fun j => nI (Kd j)))), (k5, .inl (cI, 501, .inl sf)), (k6, .inl (cI, 501, .inl nf)), (k7, .inl (cI, 6, .inl (fun j => nI (Tk j)))), (p0, .inr (4, [.int (nI nc), .ref b1, .ref b2, .ref b3])), (b1, .inl (cI, 3, .inl (fun j => nI (L j)))), (b2, .inl (cI, 4, .inl cf)), (b3, .inl (cI, 192, .inl pf)), (d0, .inr (4, [.int (nI ncd), .ref e1, .ref e2, .ref e3])), (e1, .inl (cI, 3, .inl (fun j => nI (Ld j)))), (e2, .inl (cI, 4, .inl cfd)), (e3, .inl (cI, 192, .inl pfd)), (m0, .inr (3, [.ref ms, .int e_2, .int (nI e_3), .int e_4, .ref md])), (ms, .inr (7, [.ref mw])), (mw, .inl (cI, 34, .inl e_5)), (md, .inl (cI, 38, .inl vd)), (oA, .inr (2, [.int 0, .int flA, .int (nI stA), .int (nI sA), .ref bA])), (bA, .inl (cI, rrA, .inl recA)), (oB, .inr (2, [.int 0, .int flB, .int (nI stB), .int (nI sB), .ref bB])), (bB, .inl (cI, rrB, .inl recB)), (ra, .inr (5, [.int 0, .int ran, .int rr2, .int rr3, .int rr4, .int (nI rt), .ref a6])), (a6, .inl (cI, 38, .inl rpa)), (cu, .inr (0, [.ref f0, .int (nI lz), .int can, .ref a3l, .int cts, .ref a5t])), (a3l, .inl (cI, 2, .inl lk)), (a5t, .inl (cI, 2, .inl td)), (f0, .inr (4, [.int fc, .ref g1, .ref g2, .ref g3])), (g1, .inl (cI, 3, .inl (fun j => nI (FL j)))), (g2, .inl (cI, 4, .inl fcf)), (g3, .inl (cI, 192, .inl fpf))]) hD [23, 0, 1, 2, 3, 4, 5, 28, 29, 30, 31, 6, 7, 8, 9, 24, 25, 26, 27, 10, 11, 12, 13, 14, 15, 16, 17, 18, 19, 20, 21, 22] (by decide) rfl
    exact kk e_1 _ tz f fp ld nc L cf pf e_2 e_3 e_4 vd _ _ H locs (Or.inl (HallN_mk cI cB cZ h0 tz f fp ld nc L cf pf e_2 e_3 e_4 vd a r0 k4 k5 k6 k7 p0 b1 b2 b3 d0 e1 e2 e3 m0 ms mw md oA oB ra a6 cu f0 g1 g2 g3 a3l a5t pv fv lp t tl vr vl Kd sf nf Tk ncd Ld cfd pfd e_5 flA stA sA bA rrA recA flB stB sB bB rrB recB ran rr2 rr3 rr4 rt rpa lz can cts td lk fc FL fcf fpf htz hR hTk hgo hq_7 hq_8 hsA hrA hmA hsB hrB hmB hrt hlz)) ⟨⟨hx293_0, hx293_1⟩, rfl, rfl, rfl, rfl, rfl, rfl, rfl, rfl, rfl⟩ hP hD hS
  · unfold HallE at hH
    obtain ⟨a, hH⟩ := hH
    obtain ⟨r0, hH⟩ := hH
    obtain ⟨k4, hH⟩ := hH
    obtain ⟨k5, hH⟩ := hH
    obtain ⟨k6, hH⟩ := hH
    obtain ⟨k7, hH⟩ := hH
    obtain ⟨p0, hH⟩ := hH
    obtain ⟨b1, hH⟩ := hH
    obtain ⟨b2, hH⟩ := hH
    obtain ⟨b3, hH⟩ := hH
    obtain ⟨d0, hH⟩ := hH
    obtain ⟨e1, hH⟩ := hH
    obtain ⟨e2, hH⟩ := hH
    obtain ⟨e3, hH⟩ := hH
    obtain ⟨m0, hH⟩ := hH
    obtain ⟨ms, hH⟩ := hH
    obtain ⟨mw, hH⟩ := hH
    obtain ⟨md, hH⟩ := hH
    obtain ⟨oA, hH⟩ := hH
    obtain ⟨oB, hH⟩ := hH
    obtain ⟨ra, hH⟩ := hH
    obtain ⟨a6, hH⟩ := hH
    obtain ⟨cu, hH⟩ := hH
    obtain ⟨f0, hH⟩ := hH
    obtain ⟨g1, hH⟩ := hH
    obtain ⟨g2, hH⟩ := hH
    obtain ⟨g3, hH⟩ := hH
    obtain ⟨a3l, hH⟩ := hH
    obtain ⟨a5t, hH⟩ := hH
    obtain ⟨pv, hH⟩ := hH
    obtain ⟨fv, hH⟩ := hH
    obtain ⟨lp, hH⟩ := hH
    obtain ⟨t, hH⟩ := hH
    obtain ⟨tl, hH⟩ := hH
    obtain ⟨vr, hH⟩ := hH
    obtain ⟨vl, hH⟩ := hH
    obtain ⟨Kd, hH⟩ := hH
    obtain ⟨sf, hH⟩ := hH
    obtain ⟨nf, hH⟩ := hH
    obtain ⟨Tk, hH⟩ := hH
    obtain ⟨ncd, hH⟩ := hH
    obtain ⟨Ld, hH⟩ := hH
    obtain ⟨cfd, hH⟩ := hH
    obtain ⟨pfd, hH⟩ := hH
    obtain ⟨mf, hH⟩ := hH
    obtain ⟨knA, hH⟩ := hH
    obtain ⟨flA, hH⟩ := hH
    obtain ⟨stA, hH⟩ := hH
    obtain ⟨sA, hH⟩ := hH
    obtain ⟨bA, hH⟩ := hH
    obtain ⟨rrA, hH⟩ := hH
    obtain ⟨recA, hH⟩ := hH
    obtain ⟨knB, hH⟩ := hH
    obtain ⟨flB, hH⟩ := hH
    obtain ⟨stB, hH⟩ := hH
    obtain ⟨sB, hH⟩ := hH
    obtain ⟨bB, hH⟩ := hH
    obtain ⟨rrB, hH⟩ := hH
    obtain ⟨recB, hH⟩ := hH
    obtain ⟨rkn, hH⟩ := hH
    obtain ⟨ran, hH⟩ := hH
    obtain ⟨rr2, hH⟩ := hH
    obtain ⟨rr3, hH⟩ := hH
    obtain ⟨rr4, hH⟩ := hH
    obtain ⟨rt, hH⟩ := hH
    obtain ⟨rpa, hH⟩ := hH
    obtain ⟨lz, hH⟩ := hH
    obtain ⟨can, hH⟩ := hH
    obtain ⟨cts, hH⟩ := hH
    obtain ⟨td, hH⟩ := hH
    obtain ⟨lk, hH⟩ := hH
    obtain ⟨fc, hH⟩ := hH
    obtain ⟨FL, hH⟩ := hH
    obtain ⟨fcf, hH⟩ := hH
    obtain ⟨fpf, hH⟩ := hH
    obtain ⟨x0, hH⟩ := hH
    obtain ⟨a2, hH⟩ := hH
    obtain ⟨s4, hH⟩ := hH
    obtain ⟨w4, hH⟩ := hH
    obtain ⟨s5, hH⟩ := hH
    obtain ⟨w5, hH⟩ := hH
    obtain ⟨a8, hH⟩ := hH
    obtain ⟨a9, hH⟩ := hH
    obtain ⟨a3, hH⟩ := hH
    obtain ⟨i0, hH⟩ := hH
    obtain ⟨i1, hH⟩ := hH
    obtain ⟨i6, hH⟩ := hH
    obtain ⟨a7, hH⟩ := hH
    obtain ⟨rl, hH⟩ := hH
    obtain ⟨rf, hH⟩ := hH
    obtain ⟨f4, hH⟩ := hH
    obtain ⟨f5, hH⟩ := hH
    obtain ⟨ef, hH⟩ := hH
    obtain ⟨sl, hH⟩ := hH
    obtain ⟨cm, hH⟩ := hH
    obtain ⟨pp, hH⟩ := hH
    obtain ⟨htz, hH⟩ := hH
    obtain ⟨hR, hH⟩ := hH
    obtain ⟨hTk, hH⟩ := hH
    obtain ⟨hgo, hH⟩ := hH
    obtain ⟨hmk, hH⟩ := hH
    obtain ⟨hM, hH⟩ := hH
    obtain ⟨hsA, hH⟩ := hH
    obtain ⟨hrA, hH⟩ := hH
    obtain ⟨hmA, hH⟩ := hH
    obtain ⟨hsB, hH⟩ := hH
    obtain ⟨hrB, hH⟩ := hH
    obtain ⟨hmB, hH⟩ := hH
    obtain ⟨hrt, hH⟩ := hH
    obtain ⟨hlz, hH⟩ := hH
    obtain ⟨hrl, hH⟩ := hH
    obtain ⟨hrm, hH⟩ := hH
    obtain ⟨rfl, rfl, rfl⟩ := hH
    obtain ⟨hc, hL6, hI5⟩ := id hgo
    have hL := gL6_8 hL6
    have hI := gG_up (b' := 7) hI5 (by decide)
    have hkb := gq_k hmA hmB hrm.2
    refine gq_goi (wc := [(h0, .inr (8, [.ref a, .int (nI tz), .ref r0, .int fp, .int ld, .ref p0, .ref m0, .ref x0, .ref oA, .ref oB, .ref ra, .ref cu])), (m0, .inr (3, [.ref ms, .int vst, .int (nI vk), .int vm, .ref md])), (ms, .inr (7, [.ref mw])), (mw, .inl (cI, 34, .inl mf)), (md, .inl (cI, 38, .inl vd)), (p0, .inr (4, [.int (nI nc), .ref b1, .ref b2, .ref b3])), (b1, .inl (cI, 3, .inl (fun j => nI (L j)))), (b2, .inl (cI, 4, .inl cf)), (b3, .inl (cI, 192, .inl pf))]) (wr := [(a, .inl (cB, 4000, .inl f)), (r0, .inr (6, [.ref d0, .int pv, .int fv, .int lp, .ref k4, .ref k5, .ref k6, .ref k7, .int (nI t), .int tl, .int vr, .int vl])), (k4, .inl (cI, 501, .inl (fun j => nI (Kd j)))), (k5, .inl (cI, 501, .inl sf)), (k6, .inl (cI, 501, .inl nf)), (k7, .inl (cI, 6, .inl (fun j => nI (Tk j)))), (d0, .inr (4, [.int (nI ncd), .ref e1, .ref e2, .ref e3])), (e1, .inl (cI, 3, .inl (fun j => nI (Ld j)))), (e2, .inl (cI, 4, .inl cfd)), (e3, .inl (cI, 192, .inl pfd)), (oA, .inr (2, [.int knA, .int flA, .int (nI stA), .int (nI sA), .ref bA])), (bA, .inl (cI, rrA, .inl recA)), (oB, .inr (2, [.int knB, .int flB, .int (nI stB), .int (nI sB), .ref bB])), (bB, .inl (cI, rrB, .inl recB)), (ra, .inr (5, [.int rkn, .int ran, .int rr2, .int rr3, .int rr4, .int (nI rt), .ref a6])), (a6, .inl (cI, 38, .inl rpa)), (cu, .inr (0, [.ref f0, .int (nI lz), .int can, .ref a3l, .int cts, .ref a5t])), (a3l, .inl (cI, 2, .inl lk)), (a5t, .inl (cI, 2, .inl td)), (f0, .inr (4, [.int fc, .ref g1, .ref g2, .ref g3])), (g1, .inl (cI, 3, .inl (fun j => nI (FL j)))), (g2, .inl (cI, 4, .inl fcf)), (g3, .inl (cI, 192, .inl fpf)), (x0, .inr (1, [.int i0, .int i1, .ref a2, .ref a3, .ref s4, .ref s5, .int i6, .ref a7, .ref a8, .ref a9])), (s4, .inr (7, [.ref w4])), (w4, .inl (cI, 34, .inl f4)), (s5, .inr (7, [.ref w5])), (w5, .inl (cI, 34, .inl f5)), (a2, .inl (cI, 3000, .inl ef)), (a7, .inl (cI, rl, .inl rf)), (a8, .inl (cI, 4096, .inl sl)), (a9, .inl (cI, 3000, .inl cm)), (a3, .inl (cI, 38, .inl pp))]) (va_runV (As := [.int z1]) (rest := []) ⟨hx, hb, hml, hown, hts⟩ (y_begin8 l D cI cB cZ h0 ld (.ref a) (.int (nI tz)) (.ref r0) (.int fp) (.ref x0) (.ref oA) (.ref oB) (.ref ra) (.ref cu) m0 ms mw md vst vk vm mf vd p0 b1 b2 b3 nc L cf pf z1 hc hL hI hmk hM _) (cwV 1 hts gP_law__y_begin8 rfl rfl rfl (by decide +kernel) ⟨Nat.le_of_ble_eq_true rfl, Nat.le_of_ble_eq_true rfl⟩) (gx_preV (ci := 8) (q0 := 0) hK gN.nil (gq_Pl hP) (gq_Dl hD) [0, 15, 16, 17, 18, 7, 8, 9, 10] rfl rfl rfl rfl) rfl rfl hl.1 rfl (lv_room (Nat.le_of_ble_eq_true rfl)) dL_law_293 ⟨(Nat.le_trans (Nat.add_le_add_right hkb.1 _) (Nat.le_of_ble_eq_true rfl)), (Nat.le_trans (Nat.add_le_add_right hkb.2 _) (Nat.le_of_ble_eq_true rfl))⟩) hP hD hS hA [0, 15, 16, 17, 18, 7, 8, 9, 10] [1, 2, 3, 4, 5, 6, 11, 12, 13, 14, 19, 20, 21, 22, 23, 24, 25, 26, 27, 28, 29, 30, 31, 32, 33, 34, 35, 36, 37, 38, 39, 40, 41] rfl rfl rfl (by decide) (fun r1 w1 H locs hp hP hD hS => ?_)
    obtain ⟨e_1, hp⟩ := hp
    obtain ⟨e_2, hp⟩ := hp
    obtain ⟨e_3, hp⟩ := hp
    obtain ⟨e_4, hp⟩ := hp
    obtain ⟨e_5, hp⟩ := hp
    obtain ⟨hq_6, hp⟩ := hp
    obtain ⟨hq_7, hp⟩ := hp
    obtain ⟨hq_8, hp⟩ := hp
    obtain ⟨hx293_0, hp⟩ := hp
    obtain ⟨hx293_1, hp⟩ := hp
    obtain ⟨h9, hp⟩ := hp
    subst hp
    have h9 := h9.symm
    subst h9
    have hq_6 : gZ e_1 := hq_6
    have hq_7 : e_3 ≤ 38 := hq_7
    have hq_8 : gMs e_2 pf cf e_4 vd L nc e_3 e_5 := hq_8
    have hx293_0 : (e_1 = 1 ∧ ¬ ld = 0 ∧ (z1 = 0 ∨ z1 = 1)) ∨ (e_1 = 0 ∧ ¬ (¬ ld = 0 ∧ (z1 = 0 ∨ z1 = 1))) := hx293_0
    have hx293_1 : (e_1 = 0 ∧ e_2 = vst ∧ e_3 = vk ∧ e_4 = vm) ∨ (e_1 = 1 ∧ e_2 = 1 ∧ e_3 = 0 ∧ e_4 = z1) := hx293_1
    have hP : va_P D vwCl ([(a, .inl (cB, 4000, .inl f)), (r0, .inr (6, [.ref d0, .int pv, .int fv, .int lp, .ref k4, .ref k5, .ref k6, .ref k7, .int (nI t), .int tl, .int vr, .int vl])), (k4, .inl (cI, 501, .inl (fun j => nI (Kd j)))), (k5, .inl (cI, 501, .inl sf)), (k6, .inl (cI, 501, .inl nf)), (k7, .inl (cI, 6, .inl (fun j => nI (Tk j)))), (d0, .inr (4, [.int (nI ncd), .ref e1, .ref e2, .ref e3])), (e1, .inl (cI, 3, .inl (fun j => nI (Ld j)))), (e2, .inl (cI, 4, .inl cfd)), (e3, .inl (cI, 192, .inl pfd)), (oA, .inr (2, [.int knA, .int flA, .int (nI stA), .int (nI sA), .ref bA])), (bA, .inl (cI, rrA, .inl recA)), (oB, .inr (2, [.int knB, .int flB, .int (nI stB), .int (nI sB), .ref bB])), (bB, .inl (cI, rrB, .inl recB)), (ra, .inr (5, [.int rkn, .int ran, .int rr2, .int rr3, .int rr4, .int (nI rt), .ref a6])), (a6, .inl (cI, 38, .inl rpa)), (cu, .inr (0, [.ref f0, .int (nI lz), .int can, .ref a3l, .int cts, .ref a5t])), (a3l, .inl (cI, 2, .inl lk)), (a5t, .inl (cI, 2, .inl td)), (f0, .inr (4, [.int fc, .ref g1, .ref g2, .ref g3])), (g1, .inl (cI, 3, .inl (fun j => nI (FL j)))), (g2, .inl (cI, 4, .inl fcf)), (g3, .inl (cI, 192, .inl fpf)), (x0, .inr (1, [.int i0, .int i1, .ref a2, .ref a3, .ref s4, .ref s5, .int i6, .ref a7, .ref a8, .ref a9])), (s4, .inr (7, [.ref w4])), (w4, .inl (cI, 34, .inl f4)), (s5, .inr (7, [.ref w5])), (w5, .inl (cI, 34, .inl f5)), (a2, .inl (cI, 3000, .inl ef)), (a7, .inl (cI, rl, .inl rf)), (a8, .inl (cI, 4096, .inl sl)), (a9, .inl (cI, 3000, .inl cm)), (a3, .inl (cI, 38, .inl pp)), (h0, .inr (8, [.ref a, .int (nI tz), .ref r0, .int fp, .int ld, .ref p0, .ref m0, .ref x0, .ref oA, .ref oB, .ref ra, .ref cu])), (m0, .inr (3, [.ref ms, .int e_2, .int (nI e_3), .int e_4, .ref md])), (ms, .inr (7, [.ref mw])), (mw, .inl (cI, 34, .inl e_5)), (md, .inl (cI, 38, .inl vd)), (p0, .inr (4, [.int (nI nc), .ref b1, .ref b2, .ref b3])), (b1, .inl (cI, 3, .inl (fun j => nI (L j)))), (b2, .inl (cI, 4, .inl cf)), (b3, .inl (cI, 192, .inl pf))] ++ w9) H := hP
    have hD : va_D A ([(a, .inl (cB, 4000, .inl f)), (r0, .inr (6, [.ref d0, .int pv, .int fv, .int lp, .ref k4, .ref k5, .ref k6, .ref k7, .int (nI t), .int tl, .int vr, .int vl])), (k4, .inl (cI, 501, .inl (fun j => nI (Kd j)))), (k5, .inl (cI, 501, .inl sf)), (k6, .inl (cI, 501, .inl nf)), (k7, .inl (cI, 6, .inl (fun j => nI (Tk j)))), (d0, .inr (4, [.int (nI ncd), .ref e1, .ref e2, .ref e3])), (e1, .inl (cI, 3, .inl (fun j => nI (Ld j)))), (e2, .inl (cI, 4, .inl cfd)), (e3, .inl (cI, 192, .inl pfd)), (oA, .inr (2, [.int knA, .int flA, .int (nI stA), .int (nI sA), .ref bA])), (bA, .inl (cI, rrA, .inl recA)), (oB, .inr (2, [.int knB, .int flB, .int (nI stB), .int (nI sB), .ref bB])), (bB, .inl (cI, rrB, .inl recB)), (ra, .inr (5, [.int rkn, .int ran, .int rr2, .int rr3, .int rr4, .int (nI rt), .ref a6])), (a6, .inl (cI, 38, .inl rpa)), (cu, .inr (0, [.ref f0, .int (nI lz), .int can, .ref a3l, .int cts, .ref a5t])), (a3l, .inl (cI, 2, .inl lk)), (a5t, .inl (cI, 2, .inl td)), (f0, .inr (4, [.int fc, .ref g1, .ref g2, .ref g3])), (g1, .inl (cI, 3, .inl (fun j => nI (FL j)))), (g2, .inl (cI, 4, .inl fcf)), (g3, .inl (cI, 192, .inl fpf)), (x0, .inr (1, [.int i0, .int i1, .ref a2, .ref a3, .ref s4, .ref s5, .int i6, .ref a7, .ref a8, .ref a9])), (s4, .inr (7, [.ref w4])), (w4, .inl (cI, 34, .inl f4)), (s5, .inr (7, [.ref w5])), (w5, .inl (cI, 34, .inl f5)), (a2, .inl (cI, 3000, .inl ef)), (a7, .inl (cI, rl, .inl rf)), (a8, .inl (cI, 4096, .inl sl)), (a9, .inl (cI, 3000, .inl cm)), (a3, .inl (cI, 38, .inl pp)), (h0, .inr (8, [.ref a, .int (nI tz), .ref r0, .int fp, .int ld, .ref p0, .ref m0, .ref x0, .ref oA, .ref oB, .ref ra, .ref cu])), (m0, .inr (3, [.ref ms, .int e_2, .int (nI e_3), .int e_4, .ref md])), (ms, .inr (7, [.ref mw])), (mw, .inl (cI, 34, .inl e_5)), (md, .inl (cI, 38, .inl vd)), (p0, .inr (4, [.int (nI nc), .ref b1, .ref b2, .ref b3])), (b1, .inl (cI, 3, .inl (fun j => nI (L j)))), (b2, .inl (cI, 4, .inl cf)), (b3, .inl (cI, 192, .inl pf))] ++ w9) := hD
    refine W.widen (k := 63 + (rrA / 17) + (rrB / 17) + 10 + ((rl - 1600) / 4800)) (n := 584682 + (2 * rrA + 51000 * (rrA / 51000)) + (2 * rrB + 51000 * (rrB / 51000)) + 11814 + (2 * (rl - 1600))) (Nat.le_refl _) (Nat.le_refl _) ?_
    have hP := gq_subP (X' := [(h0, .inr (8, [.ref a, .int (nI tz), .ref r0, .int fp, .int ld, .ref p0, .ref m0, .ref x0, .ref oA, .ref oB, .ref ra, .ref cu])), (a, .inl (cB, 4000, .inl f)), (r0, .inr (6, [.ref d0, .int pv, .int fv, .int lp, .ref k4, .ref k5, .ref k6, .ref k7, .int (nI t), .int tl, .int vr, .int vl])), (k4, .inl (cI, 501, .inl (fun j => nI (Kd j)))), (k5, .inl (cI, 501, .inl sf)), (k6, .inl (cI, 501, .inl nf)), (k7, .inl (cI, 6, .inl (fun j => nI (Tk j)))), (p0, .inr (4, [.int (nI nc), .ref b1, .ref b2, .ref b3])), (b1, .inl (cI, 3, .inl (fun j => nI (L j)))), (b2, .inl (cI, 4, .inl cf)), (b3, .inl (cI, 192, .inl pf)), (d0, .inr (4, [.int (nI ncd), .ref e1, .ref e2, .ref e3])), (e1, .inl (cI, 3, .inl (fun j => nI (Ld j)))), (e2, .inl (cI, 4, .inl cfd)), (e3, .inl (cI, 192, .inl pfd)), (m0, .inr (3, [.ref ms, .int e_2, .int (nI e_3), .int e_4, .ref md])), (ms, .inr (7, [.ref mw])), (mw, .inl (cI, 34, .inl e_5)), (md, .inl (cI, 38, .inl vd)), (oA, .inr (2, [.int knA, .int flA, .int (nI stA), .int (nI sA), .ref bA])), (bA, .inl (cI, rrA, .inl recA)), (oB, .inr (2, [.int knB, .int flB, .int (nI stB), .int (nI sB), .ref bB])), (bB, .inl (cI, rrB, .inl recB)), (ra, .inr (5, [.int rkn, .int ran, .int rr2, .int rr3, .int rr4, .int (nI rt), .ref a6])), (a6, .inl (cI, 38, .inl rpa)), (cu, .inr (0, [.ref f0, .int (nI lz), .int can, .ref a3l, .int cts, .ref a5t])), (a3l, .inl (cI, 2, .inl lk)), (a5t, .inl (cI, 2, .inl td)), (f0, .inr (4, [.int fc, .ref g1, .ref g2, .ref g3])), (g1, .inl (cI, 3, .inl (fun j => nI (FL j)))), (g2, .inl (cI, 4, .inl fcf)), (g3, .inl (cI, 192, .inl fpf)), (x0, .inr (1, [.int i0, .int i1, .ref a2, .ref a3, .ref s4, .ref s5, .int i6, .ref a7, .ref a8, .ref a9])), (s4, .inr (7, [.ref w4])), (w4, .inl (cI, 34, .inl f4)), (s5, .inr (7, [.ref w5])), (w5, .inl (cI, 34, .inl f5)), (a2, .inl (cI, 3000, .inl ef)), (a7, .inl (cI, rl, .inl rf)), (a8, .inl (cI, 4096, .inl sl)), (a9, .inl (cI, 3000, .inl cm)), (a3, .inl (cI, 38, .inl pp))]) hP [33, 0, 1, 2, 3, 4, 5, 38, 39, 40, 41, 6, 7, 8, 9, 34, 35, 36, 37, 10, 11, 12, 13, 14, 15, 16, 17, 18, 19, 20, 21, 22, 23, 24, 25, 26, 27, 28, 29, 30, 31, 32] rfl
    have hD := gq_subD (X' := [(h0, .inr (8, [.ref a, .int (nI tz), .ref r0, .int fp, .int ld, .ref p0, .ref m0, .ref x0, .ref oA, .ref oB, .ref ra, .ref cu])), (a, .inl (cB, 4000, .inl f)), (r0, .inr (6, [.ref d0, .int pv, .int fv, .int lp, .ref k4, .ref k5, .ref k6, .ref k7, .int (nI t), .int tl, .int vr, .int vl])), (k4, .inl (cI, 501, .inl (fun j => nI (Kd j)))), (k5, .inl (cI, 501, .inl sf)), (k6, .inl (cI, 501, .inl nf)), (k7, .inl (cI, 6, .inl (fun j => nI (Tk j)))), (p0, .inr (4, [.int (nI nc), .ref b1, .ref b2, .ref b3])), (b1, .inl (cI, 3, .inl (fun j => nI (L j)))), (b2, .inl (cI, 4, .inl cf)), (b3, .inl (cI, 192, .inl pf)), (d0, .inr (4, [.int (nI ncd), .ref e1, .ref e2, .ref e3])), (e1, .inl (cI, 3, .inl (fun j => nI (Ld j)))), (e2, .inl (cI, 4, .inl cfd)), (e3, .inl (cI, 192, .inl pfd)), (m0, .inr (3, [.ref ms, .int e_2, .int (nI e_3), .int e_4, .ref md])), (ms, .inr (7, [.ref mw])), (mw, .inl (cI, 34, .inl e_5)), (md, .inl (cI, 38, .inl vd)), (oA, .inr (2, [.int knA, .int flA, .int (nI stA), .int (nI sA), .ref bA])), (bA, .inl (cI, rrA, .inl recA)), (oB, .inr (2, [.int knB, .int flB, .int (nI stB), .int (nI sB), .ref bB])), (bB, .inl (cI, rrB, .inl recB)), (ra, .inr (5, [.int rkn, .int ran, .int rr2, .int rr3, .int rr4, .int (nI rt), .ref a6])), (a6, .inl (cI, 38, .inl rpa)), (cu, .inr (0, [.ref f0, .int (nI lz), .int can, .ref a3l, .int cts, .ref a5t])), (a3l, .inl (cI, 2, .inl lk)), (a5t, .inl (cI, 2, .inl td)), (f0, .inr (4, [.int fc, .ref g1, .ref g2, .ref g3])), (g1, .inl (cI, 3, .inl (fun j => nI (FL j)))), (g2, .inl (cI, 4, .inl fcf)), (g3, .inl (cI, 192, .inl fpf)), (x0, .inr (1, [.int i0, .int i1, .ref a2, .ref a3, .ref s4, .ref s5, .int i6, .ref a7, .ref a8, .ref a9])), (s4, .inr (7, [.ref w4])), (w4, .inl (cI, 34, .inl f4)), (s5, .inr (7, [.ref w5])), (w5, .inl (cI, 34, .inl f5)), (a2, .inl (cI, 3000, .inl ef)), (a7, .inl (cI, rl, .inl rf)), (a8, .inl (cI, 4096, .inl sl)), (a9, .inl (cI, 3000, .inl cm)), (a3, .inl (cI, 38, .inl pp))]) hD [33, 0, 1, 2, 3, 4, 5, 38, 39, 40, 41, 6, 7, 8, 9, 34, 35, 36, 37, 10, 11, 12, 13, 14, 15, 16, 17, 18, 19, 20, 21, 22, 23, 24, 25, 26, 27, 28, 29, 30, 31, 32] (by decide) rfl
    exact kk e_1 _ tz f fp ld nc L cf pf e_2 e_3 e_4 vd _ _ H locs (Or.inr (HallE_mk cI cB cZ h0 tz f fp ld nc L cf pf e_2 e_3 e_4 vd a r0 k4 k5 k6 k7 p0 b1 b2 b3 d0 e1 e2 e3 m0 ms mw md oA oB ra a6 cu f0 g1 g2 g3 a3l a5t pv fv lp t tl vr vl Kd sf nf Tk ncd Ld cfd pfd e_5 knA flA stA sA bA rrA recA knB flB stB sB bB rrB recB rkn ran rr2 rr3 rr4 rt rpa lz can cts td lk fc FL fcf fpf x0 a2 s4 w4 s5 w5 a8 a9 a3 i0 i1 i6 a7 rl rf f4 f5 ef sl cm pp htz hR hTk hgo hq_7 hq_8 hsA hrA hmA hsB hrB hmB hrt hlz hrl hrm)) ⟨⟨hx293_0, hx293_1⟩, rfl, rfl, rfl, rfl, rfl, rfl, rfl, rfl, rfl⟩ hP hD hS
