set_option maxHeartbeats 4000000 in
set_option maxRecDepth 100000 in
theorem hl_step {p : Program} {l : Launch} {e : Env} {s : State} {m : MethodId} {below : List Frame} {meth : Method} {c : Code} {b : Nat} {A : Nat → Prop} {Q : State → Prop} {D : va_G} {cI cB cZ : ClassId} {K : gKS} (G : gL p s m c b A D cI cB cZ K) {H : Heap} {locs : List Loc} {ls : Array Slot} {w8 w9 : va_W} {h0 tz kc ns : Nat} {f : Nat → Int32} {fp ld : Int32} {nc : Nat} {L : Nat → Nat} {cf : Nat → Int32} {pf : Nat → Int32} {vst : Int32} {vk : Nat} {vm : Int32} {vd : Nat → Int32} (hH : HallI cI cB cZ h0 w8 tz f fp ld nc L cf pf vst vk vm vd kc ns) (hP : va_P D vwCl (w8 ++ w9) H) (hD : va_D A (w8 ++ w9)) (hS : va_S A s.heap H locs) (hl : ls.size = 4 ∧ True) (z1 : Int32) (kk : ∀ (r : Int32) (w8' : va_W) (tz9 : Nat) (f9 : Nat → Int32) (fp9 ld9 : Int32) (nc9 : Nat) (L9 : Nat → Nat) (cf9 : Nat → Int32) (pf9 : Nat → Int32) (vst9 : Int32) (vk9 : Nat) (vm9 : Int32) (vd9 : Nat → Int32) (kc9 ns9 : Nat) (H1 : Heap) (locs1 : List Loc), HallI cI cB cZ h0 w8' tz9 f9 fp9 ld9 nc9 L9 cf9 pf9 vst9 vk9 vm9 vd9 kc9 ns9 → ((((r = 0 ∧ vk9 = vk ∧ vd9 = vd ∧ (vst = 0 ∨ 38 ≤ vk ∨ ¬ gCE ((gRun pf cf vm vd vk)) pf L nc z1)) ∨ (r = 1 ∧ ¬ vst = 0 ∧ vk9 = vk + 1 ∧ vd9 = upd vd vk z1 ∧ vk < 38 ∧ gCE ((gRun pf cf vm vd vk)) pf L nc z1)) ∧ nc ≤ 3 ∧ (∀ j, j < 3 → L j ≤ 6) ∧ gG L pf 5) ∧ tz = tz9 ∧ f = f9 ∧ fp = fp9 ∧ ld = ld9 ∧ nc = nc9 ∧ L = L9 ∧ cf = cf9 ∧ pf = pf9 ∧ vst = vst9 ∧ vm = vm9) → va_P D vwCl (w8' ++ w9) H1 → va_D A (w8' ++ w9) → va_S A s.heap H1 locs1 → W p l e room_1 s m #[Value.ref b] below meth c H1 locs1 kc9 ns9 Q (F0 m 319 ls [.int r])) : W p l e room_1 s m #[Value.ref b] below meth c H locs kc ns Q (F0 m 316 ls [.int z1, .ref h0]) := by
  obtain ⟨hx, hb, hml, hown, hts, hA, hK, hN, hE⟩ := G
  rcases hH with hH | hH
  · unfold HallN at hH
    obtain ⟨a, hH⟩ := hH
    obtain ⟨r0, hH⟩ := hH
    obtain ⟨k4, hH⟩ := hH
    obtain ⟨k5, hH⟩ := hH
    obtain ⟨k6, hH⟩ := hH
    obtain ⟨k7, hH⟩ := hH
    obtain ⟨p0, hH⟩ := hH
    obtain ⟨b1, hH⟩ := hH
    obtain ⟨b2, hH⟩ := hH
    obtain ⟨b3, hH⟩ := hH
    obtain ⟨d0, hH⟩ := hH
    obtain ⟨e1, hH⟩ := hH
    obtain ⟨e2, hH⟩ := hH
    obtain ⟨e3, hH⟩ := hH
    obtain ⟨m0, hH⟩ := hH
    obtain ⟨ms, hH⟩ := hH
    obtain ⟨mw, hH⟩ := hH
    obtain ⟨md, hH⟩ := hH
    obtain ⟨oA, hH⟩ := hH
    obtain ⟨oB, hH⟩ := hH
    obtain ⟨ra, hH⟩ := hH
    obtain ⟨a6, hH⟩ := hH
    obtain ⟨cu, hH⟩ := hH
    obtain ⟨f0, hH⟩ := hH
    obtain ⟨g1, hH⟩ := hH
    obtain ⟨g2, hH⟩ := hH
    obtain ⟨g3, hH⟩ := hH
    obtain ⟨a3l, hH⟩ := hH
    obtain ⟨a5t, hH⟩ := hH
    obtain ⟨pv, hH⟩ := hH
    obtain ⟨fv, hH⟩ := hH
    obtain ⟨lp, hH⟩ := hH
    obtain ⟨t, hH⟩ := hH
    obtain ⟨tl, hH⟩ := hH
    obtain ⟨vr, hH⟩ := hH
    obtain ⟨vl, hH⟩ := hH
    obtain ⟨Kd, hH⟩ := hH
    obtain ⟨sf, hH⟩ := hH
    obtain ⟨nf, hH⟩ := hH
    obtain ⟨Tk, hH⟩ := hH
    obtain ⟨ncd, hH⟩ := hH
    obtain ⟨Ld, hH⟩ := hH
    obtain ⟨cfd, hH⟩ := hH
    obtain ⟨pfd, hH⟩ := hH
    obtain ⟨mf, hH⟩ := hH
    obtain ⟨flA, hH⟩ := hH
    obtain ⟨stA, hH⟩ := hH
    obtain ⟨sA, hH⟩ := hH
    obtain ⟨bA, hH⟩ := hH
    obtain ⟨rrA, hH⟩ := hH
    obtain ⟨recA, hH⟩ := hH
    obtain ⟨flB, hH⟩ := hH
    obtain ⟨stB, hH⟩ := hH
    obtain ⟨sB, hH⟩ := hH
    obtain ⟨bB, hH⟩ := hH
    obtain ⟨rrB, hH⟩ := hH
    obtain ⟨recB, hH⟩ := hH
    obtain ⟨ran, hH⟩ := hH
    obtain ⟨rr2, hH⟩ := hH
    obtain ⟨rr3, hH⟩ := hH
    obtain ⟨rr4, hH⟩ := hH
    obtain ⟨rt, hH⟩ := hH
    obtain ⟨rpa, hH⟩ := hH
    obtain ⟨lz, hH⟩ := hH
    obtain ⟨can, hH⟩ := hH
    obtain ⟨cts, hH⟩ := hH
    obtain ⟨td, hH⟩ := hH
    obtain ⟨lk, hH⟩ := hH
    obtain ⟨fc, hH⟩ := hH
    obtain ⟨FL, hH⟩ := hH
    obtain ⟨fcf, hH⟩ := hH
    obtain ⟨fpf, hH⟩ := hH
    obtain ⟨htz, hH⟩ := hH
    obtain ⟨hR, hH⟩ := hH
    obtain ⟨hTk, hH⟩ := hH
    obtain ⟨hgo, hH⟩ := hH
    obtain ⟨hmk, hH⟩ := hH
    obtain ⟨hM, hH⟩ := hH
    obtain ⟨hsA, hH⟩ := hH
    obtain ⟨hrA, hH⟩ := hH
    obtain ⟨hmA, hH⟩ := hH
    obtain ⟨hsB, hH⟩ := hH
    obtain ⟨hrB, hH⟩ := hH
    obtain ⟨hmB, hH⟩ := hH
    obtain ⟨hrt, hH⟩ := hH
    obtain ⟨hlz, hH⟩ := hH
    obtain ⟨rfl, rfl, rfl⟩ := hH
    obtain ⟨hc, hL6, hI5⟩ := id hgo
    have hL := gL6_8 hL6
    have hI := gG_up (b' := 7) hI5 (by decide)
    have hkb := gq_kN hmA hmB
    refine gq_goi (wc := [(h0, .inr (8, [.ref a, .int (nI tz), .ref r0, .int fp, .int ld, .ref p0, .ref m0, .null, .ref oA, .ref oB, .ref ra, .ref cu])), (m0, .inr (3, [.ref ms, .int vst, .int (nI vk), .int vm, .ref md])), (ms, .inr (7, [.ref mw])), (mw, .inl (cI, 34, .inl mf)), (md, .inl (cI, 38, .inl vd)), (p0, .inr (4, [.int (nI nc), .ref b1, .ref b2, .ref b3])), (b1, .inl (cI, 3, .inl (fun j => nI (L j)))), (b2, .inl (cI, 4, .inl cf)), (b3, .inl (cI, 192, .inl pf))]) (wr := [(a, .inl (cB, 4000, .inl f)), (r0, .inr (6, [.ref d0, .int pv, .int fv, .int lp, .ref k4, .ref k5, .ref k6, .ref k7, .int (nI t), .int tl, .int vr, .int vl])), (k4, .inl (cI, 501, .inl (fun j => nI (Kd j)))), (k5, .inl (cI, 501, .inl sf)), (k6, .inl (cI, 501, .inl nf)), (k7, .inl (cI, 6, .inl (fun j => nI (Tk j)))), (d0, .inr (4, [.int (nI ncd), .ref e1, .ref e2, .ref e3])), (e1, .inl (cI, 3, .inl (fun j => nI (Ld j)))), (e2, .inl (cI, 4, .inl cfd)), (e3, .inl (cI, 192, .inl pfd)), (oA, .inr (2, [.int 0, .int flA, .int (nI stA), .int (nI sA), .ref bA])), (bA, .inl (cI, rrA, .inl recA)), (oB, .inr (2, [.int 0, .int flB, .int (nI stB), .int (nI sB), .ref bB])), (bB, .inl (cI, rrB, .inl recB)), (ra, .inr (5, [.int 0, .int ran, .int rr2, .int rr3, .int rr4, .int (nI rt), .ref a6])), (a6, .inl (cI, 38, .inl rpa)), (cu, .inr (0, [.ref f0, .int (nI lz), .int can, .ref a3l, .int cts, .ref a5t])), (a3l, .inl (cI, 2, .inl lk)), (a5t, .inl (cI, 2, .inl td)), (f0, .inr (4, [.int fc, .ref g1, .ref g2, .ref g3])), (g1, .inl (cI, 3, .inl (fun j => nI (FL j)))), (g2, .inl (cI, 4, .inl fcf)), (g3, .inl (cI, 192, .inl fpf))]) (va_runV (As := [.int z1]) (rest := []) ⟨hx, hb, hml, hown, hts⟩ (x_step8 l D cI cB cZ h0 ld (.ref a) (.int (nI tz)) (.ref r0) (.int fp) (.null) (.ref oA) (.ref oB) (.ref ra) (.ref cu) m0 ms mw md vst vk vm mf vd p0 b1 b2 b3 nc L cf pf z1 hc hL hI hmk hM _) (cwV 1 hts gP_law__x_step8 rfl rfl rfl (by decide +kernel) ⟨Nat.le_of_ble_eq_true rfl, Nat.le_of_ble_eq_true rfl⟩) (gx_preV (ci := 8) (q0 := 0) hK gN.nil (gq_Pl hP) (gq_Dl hD) [0, 15, 16, 17, 18, 7, 8, 9, 10] rfl rfl rfl rfl) rfl rfl hl.1 rfl (lv_room (Nat.le_of_ble_eq_true rfl)) dL_law_316 ⟨(Nat.le_trans (Nat.add_le_add_right hkb.1 _) (Nat.le_of_ble_eq_true rfl)), (Nat.le_trans (Nat.add_le_add_right hkb.2 _) (Nat.le_of_ble_eq_true rfl))⟩) hP hD hS hA [0, 15, 16, 17, 18, 7, 8, 9, 10] [1, 2, 3, 4, 5, 6, 11, 12, 13, 14, 19, 20, 21, 22, 23, 24, 25, 26, 27, 28, 29, 30, 31] rfl rfl rfl (by decide) (fun r1 w1 H locs hp hP hD hS => ?_)
    obtain ⟨e_1, hp⟩ := hp
    obtain ⟨e_2, hp⟩ := hp
    obtain ⟨e_3, hp⟩ := hp
    obtain ⟨e_4, hp⟩ := hp
    obtain ⟨hq_5, hp⟩ := hp
    obtain ⟨hq_6, hp⟩ := hp
    obtain ⟨hq_7, hp⟩ := hp
    obtain ⟨hx316_0, hp⟩ := hp
    obtain ⟨h9, hp⟩ := hp
    subst hp
    have h9 := h9.symm
    subst h9
    have hq_5 : gZ e_1 := hq_5
    have hq_6 : e_2 ≤ 38 := hq_6
    have hq_7 : gMs vst pf cf vm e_3 L nc e_2 e_4 := hq_7
    have hx316_0 : (e_1 = 0 ∧ e_2 = vk ∧ e_3 = vd ∧ (vst = 0 ∨ 38 ≤ vk ∨ ¬ gCE (gRun pf cf vm vd vk) pf L nc z1)) ∨ (e_1 = 1 ∧ ¬ vst = 0 ∧ e_2 = vk + 1 ∧ e_3 = upd vd vk z1 ∧ vk < 38 ∧ gCE (gRun pf cf vm vd vk) pf L nc z1) := hx316_0
    have hP : va_P D vwCl ([(a, .inl (cB, 4000, .inl f)), (r0, .inr (6, [.ref d0, .int pv, .int fv, .int lp, .ref k4, .ref k5, .ref k6, .ref k7, .int (nI t), .int tl, .int vr, .int vl])), (k4, .inl (cI, 501, .inl (fun j => nI (Kd j)))), (k5, .inl (cI, 501, .inl sf)), (k6, .inl (cI, 501, .inl nf)), (k7, .inl (cI, 6, .inl (fun j => nI (Tk j)))), (d0, .inr (4, [.int (nI ncd), .ref e1, .ref e2, .ref e3])), (e1, .inl (cI, 3, .inl (fun j => nI (Ld j)))), (e2, .inl (cI, 4, .inl cfd)), (e3, .inl (cI, 192, .inl pfd)), (oA, .inr (2, [.int 0, .int flA, .int (nI stA), .int (nI sA), .ref bA])), (bA, .inl (cI, rrA, .inl recA)), (oB, .inr (2, [.int 0, .int flB, .int (nI stB), .int (nI sB), .ref bB])), (bB, .inl (cI, rrB, .inl recB)), (ra, .inr (5, [.int 0, .int ran, .int rr2, .int rr3, .int rr4, .int (nI rt), .ref a6])), (a6, .inl (cI, 38, .inl rpa)), (cu, .inr (0, [.ref f0, .int (nI lz), .int can, .ref a3l, .int cts, .ref a5t])), (a3l, .inl (cI, 2, .inl lk)), (a5t, .inl (cI, 2, .inl td)), (f0, .inr (4, [.int fc, .ref g1, .ref g2, .ref g3])), (g1, .inl (cI, 3, .inl (fun j => nI (FL j)))), (g2, .inl (cI, 4, .inl fcf)), (g3, .inl (cI, 192, .inl fpf)), (h0, .inr (8, [.ref a, .int (nI tz), .ref r0, .int fp, .int ld, .ref p0, .ref m0, .null, .ref oA, .ref oB, .ref ra, .ref cu])), (m0, .inr (3, [.ref ms, .int vst, .int (nI e_2), .int vm, .ref md])), (ms, .inr (7, [.ref mw])), (mw, .inl (cI, 34, .inl e_4)), (md, .inl (cI, 38, .inl e_3)), (p0, .inr (4, [.int (nI nc), .ref b1, .ref b2, .ref b3])), (b1, .inl (cI, 3, .inl (fun j => nI (L j)))), (b2, .inl (cI, 4, .inl cf)), (b3, .inl (cI, 192, .inl pf))] ++ w9) H := hP
    have hD : va_D A ([(a, .inl (cB, 4000, .inl f)), (r0, .inr (6, [.ref d0, .int pv, .int fv, .int lp, .ref k4, .ref k5, .ref k6, .ref k7, .int (nI t), .int tl, .int vr, .int vl])), (k4, .inl (cI, 501, .inl (fun j => nI (Kd j)))), (k5, .inl (cI, 501, .inl sf)), (k6, .inl (cI, 501, .inl nf)), (k7, .inl (cI, 6, .inl (fun j => nI (Tk j)))), (d0, .inr (4, [.int (nI ncd), .ref e1, .ref e2, .ref e3])), (e1, .inl (cI, 3, .inl (fun j => nI (Ld j)))), (e2, .inl (cI, 4, .inl cfd)), (e3, .inl (cI, 192, .inl pfd)), (oA, .inr (2, [.int 0, .int flA, .int (nI stA), .int (nI sA), .ref bA])), (bA, .inl (cI, rrA, .inl recA)), (oB, .inr (2, [.int 0, .int flB, .int (nI stB), .int (nI sB), .ref bB])), (bB, .inl (cI, rrB, .inl recB)), (ra, .inr (5, [.int 0, .int ran, .int rr2, .int rr3, .int rr4, .int (nI rt), .ref a6])), (a6, .inl (cI, 38, .inl rpa)), (cu, .inr (0, [.ref f0, .int (nI lz), .int can, .ref a3l, .int cts, .ref a5t])), (a3l, .inl (cI, 2, .inl lk)), (a5t, .inl (cI, 2, .inl td)), (f0, .inr (4, [.int fc, .ref g1, .ref g2, .ref g3])), (g1, .inl (cI, 3, .inl (fun j => nI (FL j)))), (g2, .inl (cI, 4, .inl fcf)), (g3, .inl (cI, 192, .inl fpf)), (h0, .inr (8, [.ref a, .int (nI tz), .ref r0, .int fp, .int ld, .ref p0, .ref m0, .null, .ref oA, .ref oB, .ref ra, .ref cu])), (m0, .inr (3, [.ref ms, .int vst, .int (nI e_2), .int vm, .ref md])), (ms, .inr (7, [.ref mw])), (mw, .inl (cI, 34, .inl e_4)), (md, .inl (cI, 38, .inl e_3)), (p0, .inr (4, [.int (nI nc), .ref b1, .ref b2, .ref b3])), (b1, .inl (cI, 3, .inl (fun j => nI (L j)))), (b2, .inl (cI, 4, .inl cf)), (b3, .inl (cI, 192, .inl pf))] ++ w9) := hD
    refine W.widen (k := 63 + (rrA / 17) + (rrB / 17)) (n := 584682 + (2 * rrA + 51000 * (rrA / 51000)) + (2 * rrB + 51000 * (rrB / 51000))) (Nat.le_refl _) (Nat.le_refl _) ?_
    have hP := gq_subP (X' := [(h0, .inr (8, [.ref a, .int (nI tz), .ref r0, .int fp, .int ld, .ref p0, .ref m0, .null, .ref oA, .ref oB, .ref ra, .ref cu])), (a, .inl (cB, 4000, .inl f)), (r0, .inr (6, [.ref d0, .int pv, .int fv, .int lp, .ref k4, .ref k5, .ref k6, .ref k7, .int (nI t), .int tl, .int vr, .int vl])), (k4, .inl (cI, 501, .inl (fun j => nI (Kd j)))), (k5, .inl (cI, 501, .inl sf)), (k6, .inl (cI, 501, .inl nf)), (k7, .inl (cI, 6, .inl (fun j => nI (Tk j)))), (p0, .inr (4, [.int (nI nc), .ref b1, .ref b2, .ref b3])), (b1, .inl (cI, 3, .inl (fun j => nI (L j)))), (b2, .inl (cI, 4, .inl cf)), (b3, .inl (cI, 192, .inl pf)), (d0, .inr (4, [.int (nI ncd), .ref e1, .ref e2, .ref e3])), (e1, .inl (cI, 3, .inl (fun j => nI (Ld j)))), (e2, .inl (cI, 4, .inl cfd)), (e3, .inl (cI, 192, .inl pfd)), (m0, .inr (3, [.ref ms, .int vst, .int (nI e_2), .int vm, .ref md])), (ms, .inr (7, [.ref mw])), (mw, .inl (cI, 34, .inl e_4)), (md, .inl (cI, 38, .inl e_3)), (oA, .inr (2, [.int 0, .int flA, .int (nI stA), .int (nI sA), .ref bA])), (bA, .inl (cI, rrA, .inl recA)), (oB, .inr (2, [.int 0, .int flB, .int (nI stB), .int (nI sB), .ref bB])), (bB, .inl (cI, rrB, .inl recB)), (ra, .inr (5, [.int 0, .int ran, .int rr2, .int rr3, .int rr4, .int (nI rt), .ref a6])), (a6, .inl (cI, 38, .inl rpa)), (cu, .inr (0, [.ref f0, .int (nI lz), .int can, .ref a3l, .int cts, .ref a5t])), (a3l, .inl (cI, 2, .inl lk)), (a5t, .inl (cI, 2, .inl td)), (f0, .inr (4, [.int fc, .ref g1, .ref g2, .ref g3])), (g1, .inl (cI, 3, .inl (fun j => nI (FL j)))), (g2, .inl (cI, 4, .inl fcf)), (g3, .inl (cI, 192, .inl fpf))]) hP [23, 0, 1, 2, 3, 4, 5, 28, 29, 30, 31, 6, 7, 8, 9, 24, 25, 26, 27, 10, 11, 12, 13, 14, 15, 16, 17, 18, 19, 20, 21, 22] rfl
    have hD := gq_subD (X' := [(h0, .inr (8, [.ref a, .int (nI tz), .ref r0, .int fp, .int ld, .ref p0, .ref m0, .null, .ref oA, .ref oB, .ref ra, .ref cu])), (a, .inl (cB, 4000, .inl f)), (r0, .inr (6, [.ref d0, .int pv, .int fv, .int lp, .ref k4, .ref k5, .ref k6, .ref k7, .int (nI t), .int tl, .int vr, .int vl])), (k4, .inl (cI, 501, .inl (fun j => nI (Kd j)))), (k5, .inl (cI, 501, .inl sf)), (k6, .inl (cI, 501, .inl nf)), (k7, .inl (cI, 6, .inl (fun j => nI (Tk j)))), (p0, .inr (4, [.int (nI nc), .ref b1, .ref b2, .ref b3])), (b1, .inl (cI, 3, .inl (fun j => nI (L j)))), (b2, .inl (cI, 4, .inl cf)), (b3, .inl (cI, 192, .inl pf)), (d0, .inr (4, [.int (nI ncd), .ref e1, .ref e2, .ref e3])), (e1, .inl (cI, 3, .inl (fun j => nI (Ld j)))), (e2, .inl (cI, 4, .inl cfd)), (e3, .inl (cI, 192, .inl pfd)), (m0, .inr (3, [.ref ms, .int vst, .int (nI e_2), .int vm, .ref md])), (ms, .inr (7, [.ref mw])), (mw, .inl (cI, 34, .inl e_4)), (md, .inl (cI, 38, .inl e_3)), (oA, .inr (2, [.int 0, .int flA, .int (nI stA), .int (nI sA), .ref bA])), (bA, .inl (cI, rrA, .inl recA)), (oB, .inr (2, [.int 0, .int flB, .int (nI stB), .int (nI sB), .ref bB])), (bB, .inl (cI, rrB, .inl recB)), (ra, .inr (5, [.int 0, .int ran, .int rr2, .int rr3, .int rr4, .int (nI rt), .ref a6])), (a6, .inl (cI, 38, .inl rpa)), (cu, .inr (0, [.ref f0, .int (nI lz), .int can, .ref a3l, .int cts, .ref a5t])), (a3l, .inl (cI, 2, .inl lk)), (a5t, .inl (cI, 2, .inl td)), (f0, .inr (4, [.int fc, .ref g1, .ref g2, .ref g3])), (g1, .inl (cI, 3, .inl (fun j => nI (FL j)))), (g2, .inl (cI, 4, .inl fcf)), (g3, .inl (cI, 192, .inl fpf))]) hD [23, 0, 1, 2, 3, 4, 5, 28, 29, 30, 31, 6, 7, 8, 9, 24, 25, 26, 27, 10, 11, 12, 13, 14, 15, 16, 17, 18, 19, 20, 21, 22] (by decide) rfl
    exact kk e_1 _ tz f fp ld nc L cf pf vst e_2 vm e_3 _ _ H locs (Or.inl (HallN_mk cI cB cZ h0 tz f fp ld nc L cf pf vst e_2 vm e_3 a r0 k4 k5 k6 k7 p0 b1 b2 b3 d0 e1 e2 e3 m0 ms mw md oA oB ra a6 cu f0 g1 g2 g3 a3l a5t pv fv lp t tl vr vl Kd sf nf Tk ncd Ld cfd pfd e_4 flA stA sA bA rrA recA flB stB sB bB rrB recB ran rr2 rr3 rr4 rt rpa lz can cts td lk fc FL fcf fpf htz hR hTk hgo hq_6 hq_7 hsA hrA hmA hsB hrB hmB hrt hlz)) ⟨⟨hx316_0, hgo⟩, rfl, rfl, rfl, rfl, rfl, rfl, rfl, rfl, rfl, rfl⟩ hP hD hS
  · unfold HallE at hH
    obtain ⟨a, hH⟩ := hH
    obtain ⟨r0, hH⟩ := hH
    obtain ⟨k4, hH⟩ := hH
    obtain ⟨k5, hH⟩ := hH
    obtain ⟨k6, hH⟩ := hH
    obtain ⟨k7, hH⟩ := hH
    obtain ⟨p0, hH⟩ := hH
    obtain ⟨b1, hH⟩ := hH
    obtain ⟨b2, hH⟩ := hH
    obtain ⟨b3, hH⟩ := hH
    obtain ⟨d0, hH⟩ := hH
    obtain ⟨e1, hH⟩ := hH
    obtain ⟨e2, hH⟩ := hH
    obtain ⟨e3, hH⟩ := hH
    obtain ⟨m0, hH⟩ := hH
    obtain ⟨ms, hH⟩ := hH
    obtain ⟨mw, hH⟩ := hH
    obtain ⟨md, hH⟩ := hH
    obtain ⟨oA, hH⟩ := hH
    obtain ⟨oB, hH⟩ := hH
    obtain ⟨ra, hH⟩ := hH
    obtain ⟨a6, hH⟩ := hH
    obtain ⟨cu, hH⟩ := hH
    obtain ⟨f0, hH⟩ := hH
    obtain ⟨g1, hH⟩ := hH
    obtain ⟨g2, hH⟩ := hH
    obtain ⟨g3, hH⟩ := hH
    obtain ⟨a3l, hH⟩ := hH
    obtain ⟨a5t, hH⟩ := hH
    obtain ⟨pv, hH⟩ := hH
    obtain ⟨fv, hH⟩ := hH
    obtain ⟨lp, hH⟩ := hH
    obtain ⟨t, hH⟩ := hH
    obtain ⟨tl, hH⟩ := hH
    obtain ⟨vr, hH⟩ := hH
    obtain ⟨vl, hH⟩ := hH
    obtain ⟨Kd, hH⟩ := hH
    obtain ⟨sf, hH⟩ := hH
    obtain ⟨nf, hH⟩ := hH
    obtain ⟨Tk, hH⟩ := hH
    obtain ⟨ncd, hH⟩ := hH
    obtain ⟨Ld, hH⟩ := hH
    obtain ⟨cfd, hH⟩ := hH
    obtain ⟨pfd, hH⟩ := hH
    obtain ⟨mf, hH⟩ := hH
    obtain ⟨knA, hH⟩ := hH
    obtain ⟨flA, hH⟩ := hH
    obtain ⟨stA, hH⟩ := hH
    obtain ⟨sA, hH⟩ := hH
    obtain ⟨bA, hH⟩ := hH
    obtain ⟨rrA, hH⟩ := hH
    obtain ⟨recA, hH⟩ := hH
    obtain ⟨knB, hH⟩ := hH
    obtain ⟨flB, hH⟩ := hH
    obtain ⟨stB, hH⟩ := hH
    obtain ⟨sB, hH⟩ := hH
    obtain ⟨bB, hH⟩ := hH
    obtain ⟨rrB, hH⟩ := hH
    obtain ⟨recB, hH⟩ := hH
    obtain ⟨rkn, hH⟩ := hH
    obtain ⟨ran, hH⟩ := hH
    obtain ⟨rr2, hH⟩ := hH
    obtain ⟨rr3, hH⟩ := hH
    obtain ⟨rr4, hH⟩ := hH
    obtain ⟨rt, hH⟩ := hH
    obtain ⟨rpa, hH⟩ := hH
    obtain ⟨lz, hH⟩ := hH
    obtain ⟨can, hH⟩ := hH
    obtain ⟨cts, hH⟩ := hH
    obtain ⟨td, hH⟩ := hH
    obtain ⟨lk, hH⟩ := hH
    obtain ⟨fc, hH⟩ := hH
    obtain ⟨FL, hH⟩ := hH
    obtain ⟨fcf, hH⟩ := hH
    obtain ⟨fpf, hH⟩ := hH
    obtain ⟨x0, hH⟩ := hH
    obtain ⟨a2, hH⟩ := hH
    obtain ⟨s4, hH⟩ := hH
    obtain ⟨w4, hH⟩ := hH
    obtain ⟨s5, hH⟩ := hH
    obtain ⟨w5, hH⟩ := hH
    obtain ⟨a8, hH⟩ := hH
    obtain ⟨a9, hH⟩ := hH
    obtain ⟨a3, hH⟩ := hH
    obtain ⟨i0, hH⟩ := hH
    obtain ⟨i1, hH⟩ := hH
    obtain ⟨i6, hH⟩ := hH
    obtain ⟨a7, hH⟩ := hH
    obtain ⟨rl, hH⟩ := hH
    obtain ⟨rf, hH⟩ := hH
    obtain ⟨f4, hH⟩ := hH
    obtain ⟨f5, hH⟩ := hH
    obtain ⟨ef, hH⟩ := hH
    obtain ⟨sl, hH⟩ := hH
    obtain ⟨cm, hH⟩ := hH
    obtain ⟨pp, hH⟩ := hH
    obtain ⟨htz, hH⟩ := hH
    obtain ⟨hR, hH⟩ := hH
    obtain ⟨hTk, hH⟩ := hH
    obtain ⟨hgo, hH⟩ := hH
    obtain ⟨hmk, hH⟩ := hH
    obtain ⟨hM, hH⟩ := hH
    obtain ⟨hsA, hH⟩ := hH
    obtain ⟨hrA, hH⟩ := hH
    obtain ⟨hmA, hH⟩ := hH
    obtain ⟨hsB, hH⟩ := hH
    obtain ⟨hrB, hH⟩ := hH
    obtain ⟨hmB, hH⟩ := hH
    obtain ⟨hrt, hH⟩ := hH
    obtain ⟨hlz, hH⟩ := hH
    obtain ⟨hrl, hH⟩ := hH
    obtain ⟨hrm, hH⟩ := hH
    obtain ⟨rfl, rfl, rfl⟩ := hH
    obtain ⟨hc, hL6, hI5⟩ := id hgo
    have hL := gL6_8 hL6
    have hI := gG_up (b' := 7) hI5 (by decide)
    have hkb := gq_k hmA hmB hrm.2
    refine gq_goi (wc := [(h0, .inr (8, [.ref a, .int (nI tz), .ref r0, .int fp, .int ld, .ref p0, .ref m0, .ref x0, .ref oA, .ref oB, .ref ra, .ref cu])), (m0, .inr (3, [.ref ms, .int vst, .int (nI vk), .int vm, .ref md])), (ms, .inr (7, [.ref mw])), (mw, .inl (cI, 34, .inl mf)), (md, .inl (cI, 38, .inl vd)), (p0, .inr (4, [.int (nI nc), .ref b1, .ref b2, .ref b3])), (b1, .inl (cI, 3, .inl (fun j => nI (L j)))), (b2, .inl (cI, 4, .inl cf)), (b3, .inl (cI, 192, .inl pf))]) (wr := [(a, .inl (cB, 4000, .inl f)), (r0, .inr (6, [.ref d0, .int pv, .int fv, .int lp, .ref k4, .ref k5, .ref k6, .ref k7, .int (nI t), .int tl, .int vr, .int vl])), (k4, .inl (cI, 501, .inl (fun j => nI (Kd j)))), (k5, .inl (cI, 501, .inl sf)), (k6, .inl (cI, 501, .inl nf)), (k7, .inl (cI, 6, .inl (fun j => nI (Tk j)))), (d0, .inr (4, [.int (nI ncd), .ref e1, .ref e2, .ref e3])), (e1, .inl (cI, 3, .inl (fun j => nI (Ld j)))), (e2, .inl (cI, 4, .inl cfd)), (e3, .inl (cI, 192, .inl pfd)), (oA, .inr (2, [.int knA, .int flA, .int (nI stA), .int (nI sA), .ref bA])), (bA, .inl (cI, rrA, .inl recA)), (oB, .inr (2, [.int knB, .int flB, .int (nI stB), .int (nI sB), .ref bB])), (bB, .inl (cI, rrB, .inl recB)), (ra, .inr (5, [.int rkn, .int ran, .int rr2, .int rr3, .int rr4, .int (nI rt), .ref a6])), (a6, .inl (cI, 38, .inl rpa)), (cu, .inr (0, [.ref f0, .int (nI lz), .int can, .ref a3l, .int cts, .ref a5t])), (a3l, .inl (cI, 2, .inl lk)), (a5t, .inl (cI, 2, .inl td)), (f0, .inr (4, [.int fc, .ref g1, .ref g2, .ref g3])), (g1, .inl (cI, 3, .inl (fun j => nI (FL j)))), (g2, .inl (cI, 4, .inl fcf)), (g3, .inl (cI, 192, .inl fpf)), (x0, .inr (1, [.int i0, .int i1, .ref a2, .ref a3, .ref s4, .ref s5, .int i6, .ref a7, .ref a8, .ref a9])), (s4, .inr (7, [.ref w4])), (w4, .inl (cI, 34, .inl f4)), (s5, .inr (7, [.ref w5])), (w5, .inl (cI, 34, .inl f5)), (a2, .inl (cI, 3000, .inl ef)), (a7, .inl (cI, rl, .inl rf)), (a8, .inl (cI, 4096, .inl sl)), (a9, .inl (cI, 3000, .inl cm)), (a3, .inl (cI, 38, .inl pp))]) (va_runV (As := [.int z1]) (rest := []) ⟨hx, hb, hml, hown, hts⟩ (x_step8 l D cI cB cZ h0 ld (.ref a) (.int (nI tz)) (.ref r0) (.int fp) (.ref x0) (.ref oA) (.ref oB) (.ref ra) (.ref cu) m0 ms mw md vst vk vm mf vd p0 b1 b2 b3 nc L cf pf z1 hc hL hI hmk hM _) (cwV 1 hts gP_law__x_step8 rfl rfl rfl (by decide +kernel) ⟨Nat.le_of_ble_eq_true rfl, Nat.le_of_ble_eq_true rfl⟩) (gx_preV (ci := 8) (q0 := 0) hK gN.nil (gq_Pl hP) (gq_Dl hD) [0, 15, 16, 17, 18, 7, 8, 9, 10] rfl rfl rfl rfl) rfl rfl hl.1 rfl (lv_room (Nat.le_of_ble_eq_true rfl)) dL_law_316 ⟨(Nat.le_trans (Nat.add_le_add_right hkb.1 _) (Nat.le_of_ble_eq_true rfl)), (Nat.le_trans (Nat.add_le_add_right hkb.2 _) (Nat.le_of_ble_eq_true rfl))⟩) hP hD hS hA [0, 15, 16, 17, 18, 7, 8, 9, 10] [1, 2, 3, 4, 5, 6, 11, 12, 13, 14, 19, 20, 21, 22, 23, 24, 25, 26, 27, 28, 29, 30, 31, 32, 33, 34, 35, 36, 37, 38, 39, 40, 41] rfl rfl rfl (by decide) (fun r1 w1 H locs hp hP hD hS => ?_)
    obtain ⟨e_1, hp⟩ := hp
    obtain ⟨e_2, hp⟩ := hp
    obtain ⟨e_3, hp⟩ := hp
    obtain ⟨e_4, hp⟩ := hp
    obtain ⟨hq_5, hp⟩ := hp
    obtain ⟨hq_6, hp⟩ := hp
    obtain ⟨hq_7, hp⟩ := hp
    obtain ⟨hx316_0, hp⟩ := hp
    obtain ⟨h9, hp⟩ := hp
    subst hp
    have h9 := h9.symm
    subst h9
    have hq_5 : gZ e_1 := hq_5
    have hq_6 : e_2 ≤ 38 := hq_6
    have hq_7 : gMs vst pf cf vm e_3 L nc e_2 e_4 := hq_7
    have hx316_0 : (e_1 = 0 ∧ e_2 = vk ∧ e_3 = vd ∧ (vst = 0 ∨ 38 ≤ vk ∨ ¬ gCE (gRun pf cf vm vd vk) pf L nc z1)) ∨ (e_1 = 1 ∧ ¬ vst = 0 ∧ e_2 = vk + 1 ∧ e_3 = upd vd vk z1 ∧ vk < 38 ∧ gCE (gRun pf cf vm vd vk) pf L nc z1) := hx316_0
    have hP : va_P D vwCl ([(a, .inl (cB, 4000, .inl f)), (r0, .inr (6, [.ref d0, .int pv, .int fv, .int lp, .ref k4, .ref k5, .ref k6, .ref k7, .int (nI t), .int tl, .int vr, .int vl])), (k4, .inl (cI, 501, .inl (fun j => nI (Kd j)))), (k5, .inl (cI, 501, .inl sf)), (k6, .inl (cI, 501, .inl nf)), (k7, .inl (cI, 6, .inl (fun j => nI (Tk j)))), (d0, .inr (4, [.int (nI ncd), .ref e1, .ref e2, .ref e3])), (e1, .inl (cI, 3, .inl (fun j => nI (Ld j)))), (e2, .inl (cI, 4, .inl cfd)), (e3, .inl (cI, 192, .inl pfd)), (oA, .inr (2, [.int knA, .int flA, .int (nI stA), .int (nI sA), .ref bA])), (bA, .inl (cI, rrA, .inl recA)), (oB, .inr (2, [.int knB, .int flB, .int (nI stB), .int (nI sB), .ref bB])), (bB, .inl (cI, rrB, .inl recB)), (ra, .inr (5, [.int rkn, .int ran, .int rr2, .int rr3, .int rr4, .int (nI rt), .ref a6])), (a6, .inl (cI, 38, .inl rpa)), (cu, .inr (0, [.ref f0, .int (nI lz), .int can, .ref a3l, .int cts, .ref a5t])), (a3l, .inl (cI, 2, .inl lk)), (a5t, .inl (cI, 2, .inl td)), (f0, .inr (4, [.int fc, .ref g1, .ref g2, .ref g3])), (g1, .inl (cI, 3, .inl (fun j => nI (FL j)))), (g2, .inl (cI, 4, .inl fcf)), (g3, .inl (cI, 192, .inl fpf)), (x0, .inr (1, [.int i0, .int i1, .ref a2, .ref a3, .ref s4, .ref s5, .int i6, .ref a7, .ref a8, .ref a9])), (s4, .inr (7, [.ref w4])), (w4, .inl (cI, 34, .inl f4)), (s5, .inr (7, [.ref w5])), (w5, .inl (cI, 34, .inl f5)), (a2, .inl (cI, 3000, .inl ef)), (a7, .inl (cI, rl, .inl rf)), (a8, .inl (cI, 4096, .inl sl)), (a9, .inl (cI, 3000, .inl cm)), (a3, .inl (cI, 38, .inl pp)), (h0, .inr (8, [.ref a, .int (nI tz), .ref r0, .int fp, .int ld, .ref p0, .ref m0, .ref x0, .ref oA, .ref oB, .ref ra, .ref cu])), (m0, .inr (3, [.ref ms, .int vst, .int (nI e_2), .int vm, .ref md])), (ms, .inr (7, [.ref mw])), (mw, .inl (cI, 34, .inl e_4)), (md, .inl (cI, 38, .inl e_3)), (p0, .inr (4, [.int (nI nc), .ref b1, .ref b2, .ref b3])), (b1, .inl (cI, 3, .inl (fun j => nI (L j)))), (b2, .inl (cI, 4, .inl cf)), (b3, .inl (cI, 192, .inl pf))] ++ w9) H := hP
    have hD : va_D A ([(a, .inl (cB, 4000, .inl f)), (r0, .inr (6, [.ref d0, .int pv, .int fv, .int lp, .ref k4, .ref k5, .ref k6, .ref k7, .int (nI t), .int tl, .int vr, .int vl])), (k4, .inl (cI, 501, .inl (fun j => nI (Kd j)))), (k5, .inl (cI, 501, .inl sf)), (k6, .inl (cI, 501, .inl nf)), (k7, .inl (cI, 6, .inl (fun j => nI (Tk j)))), (d0, .inr (4, [.int (nI ncd), .ref e1, .ref e2, .ref e3])), (e1, .inl (cI, 3, .inl (fun j => nI (Ld j)))), (e2, .inl (cI, 4, .inl cfd)), (e3, .inl (cI, 192, .inl pfd)), (oA, .inr (2, [.int knA, .int flA, .int (nI stA), .int (nI sA), .ref bA])), (bA, .inl (cI, rrA, .inl recA)), (oB, .inr (2, [.int knB, .int flB, .int (nI stB), .int (nI sB), .ref bB])), (bB, .inl (cI, rrB, .inl recB)), (ra, .inr (5, [.int rkn, .int ran, .int rr2, .int rr3, .int rr4, .int (nI rt), .ref a6])), (a6, .inl (cI, 38, .inl rpa)), (cu, .inr (0, [.ref f0, .int (nI lz), .int can, .ref a3l, .int cts, .ref a5t])), (a3l, .inl (cI, 2, .inl lk)), (a5t, .inl (cI, 2, .inl td)), (f0, .inr (4, [.int fc, .ref g1, .ref g2, .ref g3])), (g1, .inl (cI, 3, .inl (fun j => nI (FL j)))), (g2, .inl (cI, 4, .inl fcf)), (g3, .inl (cI, 192, .inl fpf)), (x0, .inr (1, [.int i0, .int i1, .ref a2, .ref a3, .ref s4, .ref s5, .int i6, .ref a7, .ref a8, .ref a9])), (s4, .inr (7, [.ref w4])), (w4, .inl (cI, 34, .inl f4)), (s5, .inr (7, [.ref w5])), (w5, .inl (cI, 34, .inl f5)), (a2, .inl (cI, 3000, .inl ef)), (a7, .inl (cI, rl, .inl rf)), (a8, .inl (cI, 4096, .inl sl)), (a9, .inl (cI, 3000, .inl cm)), (a3, .inl (cI, 38, .inl pp)), (h0, .inr (8, [.ref a, .int (nI tz), .ref r0, .int fp, .int ld, .ref p0, .ref m0, .ref x0, .ref oA, .ref oB, .ref ra, .ref cu])), (m0, .inr (3, [.ref ms, .int vst, .int (nI e_2), .int vm, .ref md])), (ms, .inr (7, [.ref mw])), (mw, .inl (cI, 34, .inl e_4)), (md, .inl (cI, 38, .inl e_3)), (p0, .inr (4, [.int (nI nc), .ref b1, .ref b2, .ref b3])), (b1, .inl (cI, 3, .inl (fun j => nI (L j)))), (b2, .inl (cI, 4, .inl cf)), (b3, .inl (cI, 192, .inl pf))] ++ w9) := hD
    refine W.widen (k := 63 + (rrA / 17) + (rrB / 17) + 10 + ((rl - 1600) / 4800)) (n := 584682 + (2 * rrA + 51000 * (rrA / 51000)) + (2 * rrB + 51000 * (rrB / 51000)) + 11814 + (2 * (rl - 1600))) (Nat.le_refl _) (Nat.le_refl _) ?_
    have hP := gq_subP (X' := [(h0, .inr (8, [.ref a, .int (nI tz), .ref r0, .int fp, .int ld, .ref p0, .ref m0, .ref x0, .ref oA, .ref oB, .ref ra, .ref cu])), (a, .inl (cB, 4000, .inl f)), (r0, .inr (6, [.ref d0, .int pv, .int fv, .int lp, .ref k4, .ref k5, .ref k6, .ref k7, .int (nI t), .int tl, .int vr, .int vl])), (k4, .inl (cI, 501, .inl (fun j => nI (Kd j)))), (k5, .inl (cI, 501, .inl sf)), (k6, .inl (cI, 501, .inl nf)), (k7, .inl (cI, 6, .inl (fun j => nI (Tk j)))), (p0, .inr (4, [.int (nI nc), .ref b1, .ref b2, .ref b3])), (b1, .inl (cI, 3, .inl (fun j => nI (L j)))), (b2, .inl (cI, 4, .inl cf)), (b3, .inl (cI, 192, .inl pf)), (d0, .inr (4, [.int (nI ncd), .ref e1, .ref e2, .ref e3])), (e1, .inl (cI, 3, .inl (fun j => nI (Ld j)))), (e2, .inl (cI, 4, .inl cfd)), (e3, .inl (cI, 192, .inl pfd)), (m0, .inr (3, [.ref ms, .int vst, .int (nI e_2), .int vm, .ref md])), (ms, .inr (7, [.ref mw])), (mw, .inl (cI, 34, .inl e_4)), (md, .inl (cI, 38, .inl e_3)), (oA, .inr (2, [.int knA, .int flA, .int (nI stA), .int (nI sA), .ref bA])), (bA, .inl (cI, rrA, .inl recA)), (oB, .inr (2, [.int knB, .int flB, .int (nI stB), .int (nI sB), .ref bB])), (bB, .inl (cI, rrB, .inl recB)), (ra, .inr (5, [.int rkn, .int ran, .int rr2, .int rr3, .int rr4, .int (nI rt), .ref a6])), (a6, .inl (cI, 38, .inl rpa)), (cu, .inr (0, [.ref f0, .int (nI lz), .int can, .ref a3l, .int cts, .ref a5t])), (a3l, .inl (cI, 2, .inl lk)), (a5t, .inl (cI, 2, .inl td)), (f0, .inr (4, [.int fc, .ref g1, .ref g2, .ref g3])), (g1, .inl (cI, 3, .inl (fun j => nI (FL j)))), (g2, .inl (cI, 4, .inl fcf)), (g3, .inl (cI, 192, .inl fpf)), (x0, .inr (1, [.int i0, .int i1, .ref a2, .ref a3, .ref s4, .ref s5, .int i6, .ref a7, .ref a8, .ref a9])), (s4, .inr (7, [.ref w4])), (w4, .inl (cI, 34, .inl f4)), (s5, .inr (7, [.ref w5])), (w5, .inl (cI, 34, .inl f5)), (a2, .inl (cI, 3000, .inl ef)), (a7, .inl (cI, rl, .inl rf)), (a8, .inl (cI, 4096, .inl sl)), (a9, .inl (cI, 3000, .inl cm)), (a3, .inl (cI, 38, .inl pp))]) hP [33, 0, 1, 2, 3, 4, 5, 38, 39, 40, 41, 6, 7, 8, 9, 34, 35, 36, 37, 10, 11, 12, 13, 14, 15, 16, 17, 18, 19, 20, 21, 22, 23, 24, 25, 26, 27, 28, 29, 30, 31, 32] rfl
    have hD := gq_subD (X' := [(h0, .inr (8, [.ref a, .int (nI tz), .ref r0, .int fp, .int ld, .ref p0, .ref m0, .ref x0, .ref oA, .ref oB, .ref ra, .ref cu])), (a, .inl (cB, 4000, .inl f)), (r0, .inr (6, [.ref d0, .int pv, .int fv, .int lp, .ref k4, .ref k5, .ref k6, .ref k7, .int (nI t), .int tl, .int vr, .int vl])), (k4, .inl (cI, 501, .inl (fun j => nI (Kd j)))), (k5, .inl (cI, 501, .inl sf)), (k6, .inl (cI, 501, .inl nf)), (k7, .inl (cI, 6, .inl (fun j => nI (Tk j)))), (p0, .inr (4, [.int (nI nc), .ref b1, .ref b2, .ref b3])), (b1, .inl (cI, 3, .inl (fun j => nI (L j)))), (b2, .inl (cI, 4, .inl cf)), (b3, .inl (cI, 192, .inl pf)), (d0, .inr (4, [.int (nI ncd), .ref e1, .ref e2, .ref e3])), (e1, .inl (cI, 3, .inl (fun j => nI (Ld j)))), (e2, .inl (cI, 4, .inl cfd)), (e3, .inl (cI, 192, .inl pfd)), (m0, .inr (3, [.ref ms, .int vst, .int (nI e_2), .int vm, .ref md])), (ms, .inr (7, [.ref mw])), (mw, .inl (cI, 34, .inl e_4)), (md, .inl (cI, 38, .inl e_3)), (oA, .inr (2, [.int knA, .int flA, .int (nI stA), .int (nI sA), .ref bA])), (bA, .inl (cI, rrA, .inl recA)), (oB, .inr (2, [.int knB, .int flB, .int (nI stB), .int (nI sB), .ref bB])), (bB, .inl (cI, rrB, .inl recB)), (ra, .inr (5, [.int rkn, .int ran, .int rr2, .int rr3, .int rr4, .int (nI rt), .ref a6])), (a6, .inl (cI, 38, .inl rpa)), (cu, .inr (0, [.ref f0, .int (nI lz), .int can, .ref a3l, .int cts, .ref a5t])), (a3l, .inl (cI, 2, .inl lk)), (a5t, .inl (cI, 2, .inl td)), (f0, .inr (4, [.int fc, .ref g1, .ref g2, .ref g3])), (g1, .inl (cI, 3, .inl (fun j => nI (FL j)))), (g2, .inl (cI, 4, .inl fcf)), (g3, .inl (cI, 192, .inl fpf)), (x0, .inr (1, [.int i0, .int i1, .ref a2, .ref a3, .ref s4, .ref s5, .int i6, .ref a7, .ref a8, .ref a9])), (s4, .inr (7, [.ref w4])), (w4, .inl (cI, 34, .inl f4)), (s5, .inr (7, [.ref w5])), (w5, .inl (cI, 34, .inl f5)), (a2, .inl (cI, 3000, .inl ef)), (a7, .inl (cI, rl, .inl rf)), (a8, .inl (cI, 4096, .inl sl)), (a9, .inl (cI, 3000, .inl cm)), (a3, .inl (cI, 38, .inl pp))]) hD [33, 0, 1, 2, 3, 4, 5, 38, 39, 40, 41, 6, 7, 8, 9, 34, 35, 36, 37, 10, 11, 12, 13, 14, 15, 16, 17, 18, 19, 20, 21, 22, 23, 24, 25, 26, 27, 28, 29, 30, 31, 32] (by decide) rfl
    exact kk e_1 _ tz f fp ld nc L cf pf vst e_2 vm e_3 _ _ H locs (Or.inr (HallE_mk cI cB cZ h0 tz f fp ld nc L cf pf vst e_2 vm e_3 a r0 k4 k5 k6 k7 p0 b1 b2 b3 d0 e1 e2 e3 m0 ms mw md oA oB ra a6 cu f0 g1 g2 g3 a3l a5t pv fv lp t tl vr vl Kd sf nf Tk ncd Ld cfd pfd e_4 knA flA stA sA bA rrA recA knB flB stB sB bB rrB recB rkn ran rr2 rr3 rr4 rt rpa lz can cts td lk fc FL fcf fpf x0 a2 s4 w4 s5 w5 a8 a9 a3 i0 i1 i6 a7 rl rf f4 f5 ef sl cm pp htz hR hTk hgo hq_6 hq_7 hsA hrA hmA hsB hrB hmB hrt hlz hrl hrm)) ⟨⟨hx316_0, hgo⟩, rfl, rfl, rfl, rfl, rfl, rfl, rfl, rfl, rfl, rfl⟩ hP hD hS
set_option maxHeartbeats 4000000 in
set_option maxRecDepth 100000 in
theorem hl_undo {p : Program} {l : Launch} {e : Env} {s : State} {m : MethodId} {below : List Frame} {meth : Method} {c : Code} {b : Nat} {A : Nat → Prop} {Q : State → Prop} {D : va_G} {cI cB cZ : ClassId} {K : gKS} (G : gL p s m c b A D cI cB cZ K) {H : Heap} {locs : List Loc} {ls : Array Slot} {w8 w9 : va_W} {h0 tz kc ns : Nat} {f : Nat → Int32} {fp ld : Int32} {nc : Nat} {L : Nat → Nat} {cf : Nat → Int32} {pf : Nat → Int32} {vst : Int32} {vk : Nat} {vm : Int32} {vd : Nat → Int32} (hH : HallI cI cB cZ h0 w8 tz f fp ld nc L cf pf vst vk vm vd kc ns) (hP : va_P D vwCl (w8 ++ w9) H) (hD : va_D A (w8 ++ w9)) (hS : va_S A s.heap H locs) (hl : ls.size = 4 ∧ True) (kk : ∀ (r : Int32) (w8' : va_W) (tz9 : Nat) (f9 : Nat → Int32) (fp9 ld9 : Int32) (nc9 : Nat) (L9 : Nat → Nat) (cf9 : Nat → Int32) (pf9 : Nat → Int32) (vst9 : Int32) (vk9 : Nat) (vm9 : Int32) (vd9 : Nat → Int32) (kc9 ns9 : Nat) (H1 : Heap) (locs1 : List Loc), HallI cI cB cZ h0 w8' tz9 f9 fp9 ld9 nc9 L9 cf9 pf9 vst9 vk9 vm9 vd9 kc9 ns9 → (((r = 0 ∧ vk9 = vk ∧ (vst = 0 ∨ vk = 0)) ∨ (r = 1 ∧ ¬ vst = 0 ∧ vk9 = vk - 1 ∧ 0 < vk)) ∧ tz = tz9 ∧ f = f9 ∧ fp = fp9 ∧ ld = ld9 ∧ nc = nc9 ∧ L = L9 ∧ cf = cf9 ∧ pf = pf9 ∧ vst = vst9 ∧ vm = vm9 ∧ vd = vd9) → va_P D vwCl (w8' ++ w9) H1 → va_D A (w8' ++ w9) → va_S A s.heap H1 locs1 → W p l e room_1 s m #[Value.ref b] below meth c H1 locs1 kc9 ns9 Q (F0 m 337 ls [.int r])) : W p l e room_1 s m #[Value.ref b] below meth c H locs kc ns Q (F0 m 334 ls [.ref h0]) := by
  obtain ⟨hx, hb, hml, hown, hts, hA, hK, hN, hE⟩ := G
  rcases hH with hH | hH
  · unfold HallN at hH
    obtain ⟨a, hH⟩ := hH
    obtain ⟨r0, hH⟩ := hH
    obtain ⟨k4, hH⟩ := hH
    obtain ⟨k5, hH⟩ := hH
    obtain ⟨k6, hH⟩ := hH
    obtain ⟨k7, hH⟩ := hH
    obtain ⟨p0, hH⟩ := hH
    obtain ⟨b1, hH⟩ := hH
    obtain ⟨b2, hH⟩ := hH
    obtain ⟨b3, hH⟩ := hH
    obtain ⟨d0, hH⟩ := hH
    obtain ⟨e1, hH⟩ := hH
    obtain ⟨e2, hH⟩ := hH
    obtain ⟨e3, hH⟩ := hH
    obtain ⟨m0, hH⟩ := hH
    obtain ⟨ms, hH⟩ := hH
    obtain ⟨mw, hH⟩ := hH
    obtain ⟨md, hH⟩ := hH
    obtain ⟨oA, hH⟩ := hH
    obtain ⟨oB, hH⟩ := hH
    obtain ⟨ra, hH⟩ := hH
    obtain ⟨a6, hH⟩ := hH
    obtain ⟨cu, hH⟩ := hH
    obtain ⟨f0, hH⟩ := hH
    obtain ⟨g1, hH⟩ := hH
    obtain ⟨g2, hH⟩ := hH
    obtain ⟨g3, hH⟩ := hH
    obtain ⟨a3l, hH⟩ := hH
    obtain ⟨a5t, hH⟩ := hH
    obtain ⟨pv, hH⟩ := hH
    obtain ⟨fv, hH⟩ := hH
    obtain ⟨lp, hH⟩ := hH
    obtain ⟨t, hH⟩ := hH
    obtain ⟨tl, hH⟩ := hH
    obtain ⟨vr, hH⟩ := hH
    obtain ⟨vl, hH⟩ := hH
    obtain ⟨Kd, hH⟩ := hH
    obtain ⟨sf, hH⟩ := hH
    obtain ⟨nf, hH⟩ := hH
    obtain ⟨Tk, hH⟩ := hH
    obtain ⟨ncd, hH⟩ := hH
    obtain ⟨Ld, hH⟩ := hH
    obtain ⟨cfd, hH⟩ := hH
    obtain ⟨pfd, hH⟩ := hH
    obtain ⟨mf, hH⟩ := hH
    obtain ⟨flA, hH⟩ := hH
    obtain ⟨stA, hH⟩ := hH
    obtain ⟨sA, hH⟩ := hH
    obtain ⟨bA, hH⟩ := hH
    obtain ⟨rrA, hH⟩ := hH
    obtain ⟨recA, hH⟩ := hH
    obtain ⟨flB, hH⟩ := hH
    obtain ⟨stB, hH⟩ := hH
    obtain ⟨sB, hH⟩ := hH
    obtain ⟨bB, hH⟩ := hH
    obtain ⟨rrB, hH⟩ := hH
    obtain ⟨recB, hH⟩ := hH
    obtain ⟨ran, hH⟩ := hH
    obtain ⟨rr2, hH⟩ := hH
    obtain ⟨rr3, hH⟩ := hH
    obtain ⟨rr4, hH⟩ := hH
    obtain ⟨rt, hH⟩ := hH
    obtain ⟨rpa, hH⟩ := hH
    obtain ⟨lz, hH⟩ := hH
    obtain ⟨can, hH⟩ := hH
    obtain ⟨cts, hH⟩ := hH
    obtain ⟨td, hH⟩ := hH
    obtain ⟨lk, hH⟩ := hH
    obtain ⟨fc, hH⟩ := hH
    obtain ⟨FL, hH⟩ := hH
    obtain ⟨fcf, hH⟩ := hH
    obtain ⟨fpf, hH⟩ := hH
    obtain ⟨htz, hH⟩ := hH
    obtain ⟨hR, hH⟩ := hH
    obtain ⟨hTk, hH⟩ := hH
    obtain ⟨hgo, hH⟩ := hH
    obtain ⟨hmk, hH⟩ := hH
    obtain ⟨hM, hH⟩ := hH
    obtain ⟨hsA, hH⟩ := hH
    obtain ⟨hrA, hH⟩ := hH
    obtain ⟨hmA, hH⟩ := hH
    obtain ⟨hsB, hH⟩ := hH
    obtain ⟨hrB, hH⟩ := hH
    obtain ⟨hmB, hH⟩ := hH
    obtain ⟨hrt, hH⟩ := hH
    obtain ⟨hlz, hH⟩ := hH
    obtain ⟨rfl, rfl, rfl⟩ := hH
    obtain ⟨hc, hL6, hI5⟩ := id hgo
    have hL := gL6_8 hL6
    have hI := gG_up (b' := 7) hI5 (by decide)
    have hkb := gq_kN hmA hmB
    refine gq_goi (wc := [(h0, .inr (8, [.ref a, .int (nI tz), .ref r0, .int fp, .int ld, .ref p0, .ref m0, .null, .ref oA, .ref oB, .ref ra, .ref cu])), (m0, .inr (3, [.ref ms, .int vst, .int (nI vk), .int vm, .ref md])), (ms, .inr (7, [.ref mw])), (mw, .inl (cI, 34, .inl mf)), (md, .inl (cI, 38, .inl vd)), (p0, .inr (4, [.int (nI nc), .ref b1, .ref b2, .ref b3])), (b1, .inl (cI, 3, .inl (fun j => nI (L j)))), (b2, .inl (cI, 4, .inl cf)), (b3, .inl (cI, 192, .inl pf))]) (wr := [(a, .inl (cB, 4000, .inl f)), (r0, .inr (6, [.ref d0, .int pv, .int fv, .int lp, .ref k4, .ref k5, .ref k6, .ref k7, .int (nI t), .int tl, .int vr, .int vl])), (k4, .inl (cI, 501, .inl (fun j => nI (Kd j)))), (k5, .inl (cI, 501, .inl sf)), (k6, .inl (cI, 501, .inl nf)), (k7, .inl (cI, 6, .inl (fun j => nI (Tk j)))), (d0, .inr (4, [.int (nI ncd), .ref e1, .ref e2, .ref e3])), (e1, .inl (cI, 3, .inl (fun j => nI (Ld j)))), (e2, .inl (cI, 4, .inl cfd)), (e3, .inl (cI, 192, .inl pfd)), (oA, .inr (2, [.int 0, .int flA, .int (nI stA), .int (nI sA), .ref bA])), (bA, .inl (cI, rrA, .inl recA)), (oB, .inr (2, [.int 0, .int flB, .int (nI stB), .int (nI sB), .ref bB])), (bB, .inl (cI, rrB, .inl recB)), (ra, .inr (5, [.int 0, .int ran, .int rr2, .int rr3, .int rr4, .int (nI rt), .ref a6])), (a6, .inl (cI, 38, .inl rpa)), (cu, .inr (0, [.ref f0, .int (nI lz), .int can, .ref a3l, .int cts, .ref a5t])), (a3l, .inl (cI, 2, .inl lk)), (a5t, .inl (cI, 2, .inl td)), (f0, .inr (4, [.int fc, .ref g1, .ref g2, .ref g3])), (g1, .inl (cI, 3, .inl (fun j => nI (FL j)))), (g2, .inl (cI, 4, .inl fcf)), (g3, .inl (cI, 192, .inl fpf))]) (va_runV (As := []) (rest := []) ⟨hx, hb, hml, hown, hts⟩ (x_undo8 l D cI cB cZ h0 ld (.ref a) (.int (nI tz)) (.ref r0) (.int fp) (.null) (.ref oA) (.ref oB) (.ref ra) (.ref cu) m0 ms mw md vst vk vm mf vd p0 b1 b2 b3 nc L cf pf hc hL hI hmk hM _) (cwV 0 hts gP_law__x_undo8 rfl rfl rfl (by decide +kernel) ⟨Nat.le_of_ble_eq_true rfl, Nat.le_of_ble_eq_true rfl⟩) (gx_preV (ci := 8) (q0 := 0) hK gN.nil (gq_Pl hP) (gq_Dl hD) [0, 15, 16, 17, 18, 7, 8, 9, 10] rfl rfl rfl rfl) rfl rfl hl.1 rfl (lv_room (Nat.le_of_ble_eq_true rfl)) dL_law_334 ⟨(Nat.le_trans (Nat.add_le_add_right hkb.1 _) (Nat.le_of_ble_eq_true rfl)), (Nat.le_trans (Nat.add_le_add_right hkb.2 _) (Nat.le_of_ble_eq_true rfl))⟩) hP hD hS hA [0, 15, 16, 17, 18, 7, 8, 9, 10] [1, 2, 3, 4, 5, 6, 11, 12, 13, 14, 19, 20, 21, 22, 23, 24, 25, 26, 27, 28, 29, 30, 31] rfl rfl rfl (by decide) (fun r1 w1 H locs hp hP hD hS => ?_)
    obtain ⟨e_1, hp⟩ := hp
    obtain ⟨e_2, hp⟩ := hp
    obtain ⟨e_3, hp⟩ := hp
    obtain ⟨hq_4, hp⟩ := hp
    obtain ⟨hq_5, hp⟩ := hp
    obtain ⟨hq_6, hp⟩ := hp
    obtain ⟨hx334_0, hp⟩ := hp
    obtain ⟨h9, hp⟩ := hp
    subst hp
    have h9 := h9.symm
    subst h9
    have hq_4 : gZ e_1 := hq_4
    have hq_5 : e_2 ≤ 38 := hq_5
    have hq_6 : gMs vst pf cf vm vd L nc e_2 e_3 := hq_6
    have hx334_0 : (e_1 = 0 ∧ e_2 = vk ∧ (vst = 0 ∨ vk = 0)) ∨ (e_1 = 1 ∧ ¬ vst = 0 ∧ e_2 = vk - 1 ∧ 0 < vk) := hx334_0
    have hP : va_P D vwCl ([(a, .inl (cB, 4000, .inl f)), (r0, .inr (6, [.ref d0, .int pv, .int fv, .int lp, .ref k4, .ref k5, .ref k6, .ref k7, .int (nI t), .int tl, .int vr, .int vl])), (k4, .inl (cI, 501, .inl (fun j => nI (Kd j)))), (k5, .inl (cI, 501, .inl sf)), (k6, .inl (cI, 501, .inl nf)), (k7, .inl (cI, 6, .inl (fun j => nI (Tk j)))), (d0, .inr (4, [.int (nI ncd), .ref e1, .ref e2, .ref e3])), (e1, .inl (cI, 3, .inl (fun j => nI (Ld j)))), (e2, .inl (cI, 4, .inl cfd)), (e3, .inl (cI, 192, .inl pfd)), (oA, .inr (2, [.int 0, .int flA, .int (nI stA), .int (nI sA), .ref bA])), (bA, .inl (cI, rrA, .inl recA)), (oB, .inr (2, [.int 0, .int flB, .int (nI stB), .int (nI sB), .ref bB])), (bB, .inl (cI, rrB, .inl recB)), (ra, .inr (5, [.int 0, .int ran, .int rr2, .int rr3, .int rr4, .int (nI rt), .ref a6])), (a6, .inl (cI, 38, .inl rpa)), (cu, .inr (0, [.ref f0, .int (nI lz), .int can, .ref a3l, .int cts, .ref a5t])), (a3l, .inl (cI, 2, .inl lk)), (a5t, .inl (cI, 2, .inl td)), (f0, .inr (4, [.int fc, .ref g1, .ref g2, .ref g3])), (g1, .inl (cI, 3, .inl (fun j => nI (FL j)))), (g2, .inl (cI, 4, .inl fcf)), (g3, .inl (cI, 192, .inl fpf)), (h0, .inr (8, [.ref a, .int (nI tz), .ref r0, .int fp, .int ld, .ref p0, .ref m0, .null, .ref oA, .ref oB, .ref ra, .ref cu])), (m0, .inr (3, [.ref ms, .int vst, .int (nI e_2), .int vm, .ref md])), (ms, .inr (7, [.ref mw])), (mw, .inl (cI, 34, .inl e_3)), (md, .inl (cI, 38, .inl vd)), (p0, .inr (4, [.int (nI nc), .ref b1, .ref b2, .ref b3])), (b1, .inl (cI, 3, .inl (fun j => nI (L j)))), (b2, .inl (cI, 4, .inl cf)), (b3, .inl (cI, 192, .inl pf))] ++ w9) H := hP
    have hD : va_D A ([(a, .inl (cB, 4000, .inl f)), (r0, .inr (6, [.ref d0, .int pv, .int fv, .int lp, .ref k4, .ref k5, .ref k6, .ref k7, .int (nI t), .int tl, .int vr, .int vl])), (k4, .inl (cI, 501, .inl (fun j => nI (Kd j)))), (k5, .inl (cI, 501, .inl sf)), (k6, .inl (cI, 501, .inl nf)), (k7, .inl (cI, 6, .inl (fun j => nI (Tk j)))), (d0, .inr (4, [.int (nI ncd), .ref e1, .ref e2, .ref e3])), (e1, .inl (cI, 3, .inl (fun j => nI (Ld j)))), (e2, .inl (cI, 4, .inl cfd)), (e3, .inl (cI, 192, .inl pfd)), (oA, .inr (2, [.int 0, .int flA, .int (nI stA), .int (nI sA), .ref bA])), (bA, .inl (cI, rrA, .inl recA)), (oB, .inr (2, [.int 0, .int flB, .int (nI stB), .int (nI sB), .ref bB])), (bB, .inl (cI, rrB, .inl recB)), (ra, .inr (5, [.int 0, .int ran, .int rr2, .int rr3, .int rr4, .int (nI rt), .ref a6])), (a6, .inl (cI, 38, .inl rpa)), (cu, .inr (0, [.ref f0, .int (nI lz), .int can, .ref a3l, .int cts, .ref a5t])), (a3l, .inl (cI, 2, .inl lk)), (a5t, .inl (cI, 2, .inl td)), (f0, .inr (4, [.int fc, .ref g1, .ref g2, .ref g3])), (g1, .inl (cI, 3, .inl (fun j => nI (FL j)))), (g2, .inl (cI, 4, .inl fcf)), (g3, .inl (cI, 192, .inl fpf)), (h0, .inr (8, [.ref a, .int (nI tz), .ref r0, .int fp, .int ld, .ref p0, .ref m0, .null, .ref oA, .ref oB, .ref ra, .ref cu])), (m0, .inr (3, [.ref ms, .int vst, .int (nI e_2), .int vm, .ref md])), (ms, .inr (7, [.ref mw])), (mw, .inl (cI, 34, .inl e_3)), (md, .inl (cI, 38, .inl vd)), (p0, .inr (4, [.int (nI nc), .ref b1, .ref b2, .ref b3])), (b1, .inl (cI, 3, .inl (fun j => nI (L j)))), (b2, .inl (cI, 4, .inl cf)), (b3, .inl (cI, 192, .inl pf))] ++ w9) := hD
    refine W.widen (k := 63 + (rrA / 17) + (rrB / 17)) (n := 584682 + (2 * rrA + 51000 * (rrA / 51000)) + (2 * rrB + 51000 * (rrB / 51000))) (Nat.le_refl _) (Nat.le_refl _) ?_
    have hP := gq_subP (X' := [(h0, .inr (8, [.ref a, .int (nI tz), .ref r0, .int fp, .int ld, .ref p0, .ref m0, .null, .ref oA, .ref oB, .ref ra, .ref cu])), (a, .inl (cB, 4000, .inl f)), (r0, .inr (6, [.ref d0, .int pv, .int fv, .int lp, .ref k4, .ref k5, .ref k6, .ref k7, .int (nI t), .int tl, .int vr, .int vl])), (k4, .inl (cI, 501, .inl (fun j => nI (Kd j)))), (k5, .inl (cI, 501, .inl sf)), (k6, .inl (cI, 501, .inl nf)), (k7, .inl (cI, 6, .inl (fun j => nI (Tk j)))), (p0, .inr (4, [.int (nI nc), .ref b1, .ref b2, .ref b3])), (b1, .inl (cI, 3, .inl (fun j => nI (L j)))), (b2, .inl (cI, 4, .inl cf)), (b3, .inl (cI, 192, .inl pf)), (d0, .inr (4, [.int (nI ncd), .ref e1, .ref e2, .ref e3])), (e1, .inl (cI, 3, .inl (fun j => nI (Ld j)))), (e2, .inl (cI, 4, .inl cfd)), (e3, .inl (cI, 192, .inl pfd)), (m0, .inr (3, [.ref ms, .int vst, .int (nI e_2), .int vm, .ref md])), (ms, .inr (7, [.ref mw])), (mw, .inl (cI, 34, .inl e_3)), (md, .inl (cI, 38, .inl vd)), (oA, .inr (2, [.int 0, .int flA, .int (nI stA), .int (nI sA), .ref bA])), (bA, .inl (cI, rrA, .inl recA)), (oB, .inr (2, [.int 0, .int flB, .int (nI stB), .int (nI sB), .ref bB])), (bB, .inl (cI, rrB, .inl recB)), (ra, .inr (5, [.int 0, .int ran, .int rr2, .int rr3, .int rr4, .int (nI rt), .ref a6])), (a6, .inl (cI, 38, .inl rpa)), (cu, .inr (0, [.ref f0, .int (nI lz), .int can, .ref a3l, .int cts, .ref a5t])), (a3l, .inl (cI, 2, .inl lk)), (a5t, .inl (cI, 2, .inl td)), (f0, .inr (4, [.int fc, .ref g1, .ref g2, .ref g3])), (g1, .inl (cI, 3, .inl (fun j => nI (FL j)))), (g2, .inl (cI, 4, .inl fcf)), (g3, .inl (cI, 192, .inl fpf))]) hP [23, 0, 1, 2, 3, 4, 5, 28, 29, 30, 31, 6, 7, 8, 9, 24, 25, 26, 27, 10, 11, 12, 13, 14, 15, 16, 17, 18, 19, 20, 21, 22] rfl
    have hD := gq_subD (X' := [(h0, .inr (8, [.ref a, .int (nI tz), .ref r0, .int fp, .int ld, .ref p0, .ref m0, .null, .ref oA, .ref oB, .ref ra, .ref cu])), (a, .inl (cB, 4000, .inl f)), (r0, .inr (6, [.ref d0, .int pv, .int fv, .int lp, .ref k4, .ref k5, .ref k6, .ref k7, .int (nI t), .int tl, .int vr, .int vl])), (k4, .inl (cI, 501, .inl (fun j => nI (Kd j)))), (k5, .inl (cI, 501, .inl sf)), (k6, .inl (cI, 501, .inl nf)), (k7, .inl (cI, 6, .inl (fun j => nI (Tk j)))), (p0, .inr (4, [.int (nI nc), .ref b1, .ref b2, .ref b3])), (b1, .inl (cI, 3, .inl (fun j => nI (L j)))), (b2, .inl (cI, 4, .inl cf)), (b3, .inl (cI, 192, .inl pf)), (d0, .inr (4, [.int (nI ncd), .ref e1, .ref e2, .ref e3])), (e1, .inl (cI, 3, .inl (fun j => nI (Ld j)))), (e2, .inl (cI, 4, .inl cfd)), (e3, .inl (cI, 192, .inl pfd)), (m0, .inr (3, [.ref ms, .int vst, .int (nI e_2), .int vm, .ref md])), (ms, .inr (7, [.ref mw])), (mw, .inl (cI, 34, .inl e_3)), (md, .inl (cI, 38, .inl vd)), (oA, .inr (2, [.int 0, .int flA, .int (nI stA), .int (nI sA), .ref bA])), (bA, .inl (cI, rrA, .inl recA)), (oB, .inr (2, [.int 0, .int flB, .int (nI stB), .int (nI sB), .ref bB])), (bB, .inl (cI, rrB, .inl recB)), (ra, .inr (5, [.int 0, .int ran, .int rr2, .int rr3, .int rr4, .int (nI rt), .ref a6])), (a6, .inl (cI, 38, .inl rpa)), (cu, .inr (0, [.ref f0, .int (nI lz), .int can, .ref a3l, .int cts, .ref a5t])), (a3l, .inl (cI, 2, .inl lk)), (a5t, .inl (cI, 2, .inl td)), (f0, .inr (4, [.int fc, .ref g1, .ref g2, .ref g3])), (g1, .inl (cI, 3, .inl (fun j => nI (FL j)))), (g2, .inl (cI, 4, .inl fcf)), (g3, .inl (cI, 192, .inl fpf))]) hD [23, 0, 1, 2, 3, 4, 5, 28, 29, 30, 31, 6, 7, 8, 9, 24, 25, 26, 27, 10, 11, 12, 13, 14, 15, 16, 17, 18, 19, 20, 21, 22] (by decide) rfl
    exact kk e_1 _ tz f fp ld nc L cf pf vst e_2 vm vd _ _ H locs (Or.inl (HallN_mk cI cB cZ h0 tz f fp ld nc L cf pf vst e_2 vm vd a r0 k4 k5 k6 k7 p0 b1 b2 b3 d0 e1 e2 e3 m0 ms mw md oA oB ra a6 cu f0 g1 g2 g3 a3l a5t pv fv lp t tl vr vl Kd sf nf Tk ncd Ld cfd pfd e_3 flA stA sA bA rrA recA flB stB sB bB rrB recB ran rr2 rr3 rr4 rt rpa lz can cts td lk fc FL fcf fpf htz hR hTk hgo hq_5 hq_6 hsA hrA hmA hsB hrB hmB hrt hlz)) ⟨hx334_0, rfl, rfl, rfl, rfl, rfl, rfl, rfl, rfl, rfl, rfl, rfl⟩ hP hD hS
  · unfold HallE at hH
    obtain ⟨a, hH⟩ := hH
    obtain ⟨r0, hH⟩ := hH
    obtain ⟨k4, hH⟩ := hH
    obtain ⟨k5, hH⟩ := hH
    obtain ⟨k6, hH⟩ := hH
    obtain ⟨k7, hH⟩ := hH
    obtain ⟨p0, hH⟩ := hH
    obtain ⟨b1, hH⟩ := hH
    obtain ⟨b2, hH⟩ := hH
    obtain ⟨b3, hH⟩ := hH
    obtain ⟨d0, hH⟩ := hH
    obtain ⟨e1, hH⟩ := hH
    obtain ⟨e2, hH⟩ := hH
    obtain ⟨e3, hH⟩ := hH
    obtain ⟨m0, hH⟩ := hH
    obtain ⟨ms, hH⟩ := hH
    obtain ⟨mw, hH⟩ := hH
    obtain ⟨md, hH⟩ := hH
    obtain ⟨oA, hH⟩ := hH
    obtain ⟨oB, hH⟩ := hH
    obtain ⟨ra, hH⟩ := hH
    obtain ⟨a6, hH⟩ := hH
    obtain ⟨cu, hH⟩ := hH
    obtain ⟨f0, hH⟩ := hH
    obtain ⟨g1, hH⟩ := hH
    obtain ⟨g2, hH⟩ := hH
    obtain ⟨g3, hH⟩ := hH
    obtain ⟨a3l, hH⟩ := hH
    obtain ⟨a5t, hH⟩ := hH
    obtain ⟨pv, hH⟩ := hH
    obtain ⟨fv, hH⟩ := hH
    obtain ⟨lp, hH⟩ := hH
    obtain ⟨t, hH⟩ := hH
    obtain ⟨tl, hH⟩ := hH
    obtain ⟨vr, hH⟩ := hH
    obtain ⟨vl, hH⟩ := hH
    obtain ⟨Kd, hH⟩ := hH
    obtain ⟨sf, hH⟩ := hH
    obtain ⟨nf, hH⟩ := hH
    obtain ⟨Tk, hH⟩ := hH
    obtain ⟨ncd, hH⟩ := hH
    obtain ⟨Ld, hH⟩ := hH
    obtain ⟨cfd, hH⟩ := hH
    obtain ⟨pfd, hH⟩ := hH
    obtain ⟨mf, hH⟩ := hH
    obtain ⟨knA, hH⟩ := hH
    obtain ⟨flA, hH⟩ := hH
    obtain ⟨stA, hH⟩ := hH
    obtain ⟨sA, hH⟩ := hH
    obtain ⟨bA, hH⟩ := hH
    obtain ⟨rrA, hH⟩ := hH
    obtain ⟨recA, hH⟩ := hH
    obtain ⟨knB, hH⟩ := hH
    obtain ⟨flB, hH⟩ := hH
    obtain ⟨stB, hH⟩ := hH
    obtain ⟨sB, hH⟩ := hH
    obtain ⟨bB, hH⟩ := hH
    obtain ⟨rrB, hH⟩ := hH
    obtain ⟨recB, hH⟩ := hH
    obtain ⟨rkn, hH⟩ := hH
    obtain ⟨ran, hH⟩ := hH
    obtain ⟨rr2, hH⟩ := hH
    obtain ⟨rr3, hH⟩ := hH
    obtain ⟨rr4, hH⟩ := hH
    obtain ⟨rt, hH⟩ := hH
    obtain ⟨rpa, hH⟩ := hH
    obtain ⟨lz, hH⟩ := hH
    obtain ⟨can, hH⟩ := hH
    obtain ⟨cts, hH⟩ := hH
    obtain ⟨td, hH⟩ := hH
    obtain ⟨lk, hH⟩ := hH
    obtain ⟨fc, hH⟩ := hH
    obtain ⟨FL, hH⟩ := hH
    obtain ⟨fcf, hH⟩ := hH
    obtain ⟨fpf, hH⟩ := hH
    obtain ⟨x0, hH⟩ := hH
    obtain ⟨a2, hH⟩ := hH
    obtain ⟨s4, hH⟩ := hH
    obtain ⟨w4, hH⟩ := hH
    obtain ⟨s5, hH⟩ := hH
    obtain ⟨w5, hH⟩ := hH
    obtain ⟨a8, hH⟩ := hH
    obtain ⟨a9, hH⟩ := hH
    obtain ⟨a3, hH⟩ := hH
    obtain ⟨i0, hH⟩ := hH
    obtain ⟨i1, hH⟩ := hH
    obtain ⟨i6, hH⟩ := hH
    obtain ⟨a7, hH⟩ := hH
    obtain ⟨rl, hH⟩ := hH
    obtain ⟨rf, hH⟩ := hH
    obtain ⟨f4, hH⟩ := hH
    obtain ⟨f5, hH⟩ := hH
    obtain ⟨ef, hH⟩ := hH
    obtain ⟨sl, hH⟩ := hH
    obtain ⟨cm, hH⟩ := hH
    obtain ⟨pp, hH⟩ := hH
    obtain ⟨htz, hH⟩ := hH
    obtain ⟨hR, hH⟩ := hH
    obtain ⟨hTk, hH⟩ := hH
    obtain ⟨hgo, hH⟩ := hH
    obtain ⟨hmk, hH⟩ := hH
    obtain ⟨hM, hH⟩ := hH
    obtain ⟨hsA, hH⟩ := hH
    obtain ⟨hrA, hH⟩ := hH
    obtain ⟨hmA, hH⟩ := hH
    obtain ⟨hsB, hH⟩ := hH
    obtain ⟨hrB, hH⟩ := hH
    obtain ⟨hmB, hH⟩ := hH
    obtain ⟨hrt, hH⟩ := hH
    obtain ⟨hlz, hH⟩ := hH
    obtain ⟨hrl, hH⟩ := hH
    obtain ⟨hrm, hH⟩ := hH
    obtain ⟨rfl, rfl, rfl⟩ := hH
    obtain ⟨hc, hL6, hI5⟩ := id hgo
    have hL := gL6_8 hL6
    have hI := gG_up (b' := 7) hI5 (by decide)
    have hkb := gq_k hmA hmB hrm.2
    refine gq_goi (wc := [(h0, .inr (8, [.ref a, .int (nI tz), .ref r0, .int fp, .int ld, .ref p0, .ref m0, .ref x0, .ref oA, .ref oB, .ref ra, .ref cu])), (m0, .inr (3, [.ref ms, .int vst, .int (nI vk), .int vm, .ref md])), (ms, .inr (7, [.ref mw])), (mw, .inl (cI, 34, .inl mf)), (md, .inl (cI, 38, .inl vd)), (p0, .inr (4, [.int (nI nc), .ref b1, .ref b2, .ref b3])), (b1, .inl (cI, 3, .inl (fun j => nI (L j)))), (b2, .inl (cI, 4, .inl cf)), (b3, .inl (cI, 192, .inl pf))]) (wr := [(a, .inl (cB, 4000, .inl f)), (r0, .inr (6, [.ref d0, .int pv, .int fv, .int lp, .ref k4, .ref k5, .ref k6, .ref k7, .int (nI t), .int tl, .int vr, .int vl])), (k4, .inl (cI, 501, .inl (fun j => nI (Kd j)))), (k5, .inl (cI, 501, .inl sf)), (k6, .inl (cI, 501, .inl nf)), (k7, .inl (cI, 6, .inl (fun j => nI (Tk j)))), (d0, .inr (4, [.int (nI ncd), .ref e1, .ref e2, .ref e3])), (e1, .inl (cI, 3, .inl (fun j => nI (Ld j)))), (e2, .inl (cI, 4, .inl cfd)), (e3, .inl (cI, 192, .inl pfd)), (oA, .inr (2, [.int knA, .int flA, .int (nI stA), .int (nI sA), .ref bA])), (bA, .inl (cI, rrA, .inl recA)), (oB, .inr (2, [.int knB, .int flB, .int (nI stB), .int (nI sB), .ref bB])), (bB, .inl (cI, rrB, .inl recB)), (ra, .inr (5, [.int rkn, .int ran, .int rr2, .int rr3, .int rr4, .int (nI rt), .ref a6])), (a6, .inl (cI, 38, .inl rpa)), (cu, .inr (0, [.ref f0, .int (nI lz), .int can, .ref a3l, .int cts, .ref a5t])), (a3l, .inl (cI, 2, .inl lk)), (a5t, .inl (cI, 2, .inl td)), (f0, .inr (4, [.int fc, .ref g1, .ref g2, .ref g3])), (g1, .inl (cI, 3, .inl (fun j => nI (FL j)))), (g2, .inl (cI, 4, .inl fcf)), (g3, .inl (cI, 192, .inl fpf)), (x0, .inr (1, [.int i0, .int i1, .ref a2, .ref a3, .ref s4, .ref s5, .int i6, .ref a7, .ref a8, .ref a9])), (s4, .inr (7, [.ref w4])), (w4, .inl (cI, 34, .inl f4)), (s5, .inr (7, [.ref w5])), (w5, .inl (cI, 34, .inl f5)), (a2, .inl (cI, 3000, .inl ef)), (a7, .inl (cI, rl, .inl rf)), (a8, .inl (cI, 4096, .inl sl)), (a9, .inl (cI, 3000, .inl cm)), (a3, .inl (cI, 38, .inl pp))]) (va_runV (As := []) (rest := []) ⟨hx, hb, hml, hown, hts⟩ (x_undo8 l D cI cB cZ h0 ld (.ref a) (.int (nI tz)) (.ref r0) (.int fp) (.ref x0) (.ref oA) (.ref oB) (.ref ra) (.ref cu) m0 ms mw md vst vk vm mf vd p0 b1 b2 b3 nc L cf pf hc hL hI hmk hM _) (cwV 0 hts gP_law__x_undo8 rfl rfl rfl (by decide +kernel) ⟨Nat.le_of_ble_eq_true rfl, Nat.le_of_ble_eq_true rfl⟩) (gx_preV (ci := 8) (q0 := 0) hK gN.nil (gq_Pl hP) (gq_Dl hD) [0, 15, 16, 17, 18, 7, 8, 9, 10] rfl rfl rfl rfl) rfl rfl hl.1 rfl (lv_room (Nat.le_of_ble_eq_true rfl)) dL_law_334 ⟨(Nat.le_trans (Nat.add_le_add_right hkb.1 _) (Nat.le_of_ble_eq_true rfl)), (Nat.le_trans (Nat.add_le_add_right hkb.2 _) (Nat.le_of_ble_eq_true rfl))⟩) hP hD hS hA [0, 15, 16, 17, 18, 7, 8, 9, 10] [1, 2, 3, 4, 5, 6, 11, 12, 13, 14, 19, 20, 21, 22, 23, 24, 25, 26, 27, 28, 29, 30, 31, 32, 33, 34, 35, 36, 37, 38, 39, 40, 41] rfl rfl rfl (by decide) (fun r1 w1 H locs hp hP hD hS => ?_)
    obtain ⟨e_1, hp⟩ := hp
    obtain ⟨e_2, hp⟩ := hp
    obtain ⟨e_3, hp⟩ := hp
    obtain ⟨hq_4, hp⟩ := hp
    obtain ⟨hq_5, hp⟩ := hp
    obtain ⟨hq_6, hp⟩ := hp
    obtain ⟨hx334_0, hp⟩ := hp
    obtain ⟨h9, hp⟩ := hp
    subst hp
    have h9 := h9.symm
    subst h9
    have hq_4 : gZ e_1 := hq_4
    have hq_5 : e_2 ≤ 38 := hq_5
    have hq_6 : gMs vst pf cf vm vd L nc e_2 e_3 := hq_6
    have hx334_0 : (e_1 = 0 ∧ e_2 = vk ∧ (vst = 0 ∨ vk = 0)) ∨ (e_1 = 1 ∧ ¬ vst = 0 ∧ e_2 = vk - 1 ∧ 0 < vk) := hx334_0
    have hP : va_P D vwCl ([(a, .inl (cB, 4000, .inl f)), (r0, .inr (6, [.ref d0, .int pv, .int fv, .int lp, .ref k4, .ref k5, .ref k6, .ref k7, .int (nI t), .int tl, .int vr, .int vl])), (k4, .inl (cI, 501, .inl (fun j => nI (Kd j)))), (k5, .inl (cI, 501, .inl sf)), (k6, .inl (cI, 501, .inl nf)), (k7, .inl (cI, 6, .inl (fun j => nI (Tk j)))), (d0, .inr (4, [.int (nI ncd), .ref e1, .ref e2, .ref e3])), (e1, .inl (cI, 3, .inl (fun j => nI (Ld j)))), (e2, .inl (cI, 4, .inl cfd)), (e3, .inl (cI, 192, .inl pfd)), (oA, .inr (2, [.int knA, .int flA, .int (nI stA), .int (nI sA), .ref bA])), (bA, .inl (cI, rrA, .inl recA)), (oB, .inr (2, [.int knB, .int flB, .int (nI stB), .int (nI sB), .ref bB])), (bB, .inl (cI, rrB, .inl recB)), (ra, .inr (5, [.int rkn, .int ran, .int rr2, .int rr3, .int rr4, .int (nI rt), .ref a6])), (a6, .inl (cI, 38, .inl rpa)), (cu, .inr (0, [.ref f0, .int (nI lz), .int can, .ref a3l, .int cts, .ref a5t])), (a3l, .inl (cI, 2, .inl lk)), (a5t, .inl (cI, 2, .inl td)), (f0, .inr (4, [.int fc, .ref g1, .ref g2, .ref g3])), (g1, .inl (cI, 3, .inl (fun j => nI (FL j)))), (g2, .inl (cI, 4, .inl fcf)), (g3, .inl (cI, 192, .inl fpf)), (x0, .inr (1, [.int i0, .int i1, .ref a2, .ref a3, .ref s4, .ref s5, .int i6, .ref a7, .ref a8, .ref a9])), (s4, .inr (7, [.ref w4])), (w4, .inl (cI, 34, .inl f4)), (s5, .inr (7, [.ref w5])), (w5, .inl (cI, 34, .inl f5)), (a2, .inl (cI, 3000, .inl ef)), (a7, .inl (cI, rl, .inl rf)), (a8, .inl (cI, 4096, .inl sl)), (a9, .inl (cI, 3000, .inl cm)), (a3, .inl (cI, 38, .inl pp)), (h0, .inr (8, [.ref a, .int (nI tz), .ref r0, .int fp, .int ld, .ref p0, .ref m0, .ref x0, .ref oA, .ref oB, .ref ra, .ref cu])), (m0, .inr (3, [.ref ms, .int vst, .int (nI e_2), .int vm, .ref md])), (ms, .inr (7, [.ref mw])), (mw, .inl (cI, 34, .inl e_3)), (md, .inl (cI, 38, .inl vd)), (p0, .inr (4, [.int (nI nc), .ref b1, .ref b2, .ref b3])), (b1, .inl (cI, 3, .inl (fun j => nI (L j)))), (b2, .inl (cI, 4, .inl cf)), (b3, .inl (cI, 192, .inl pf))] ++ w9) H := hP
    have hD : va_D A ([(a, .inl (cB, 4000, .inl f)), (r0, .inr (6, [.ref d0, .int pv, .int fv, .int lp, .ref k4, .ref k5, .ref k6, .ref k7, .int (nI t), .int tl, .int vr, .int vl])), (k4, .inl (cI, 501, .inl (fun j => nI (Kd j)))), (k5, .inl (cI, 501, .inl sf)), (k6, .inl (cI, 501, .inl nf)), (k7, .inl (cI, 6, .inl (fun j => nI (Tk j)))), (d0, .inr (4, [.int (nI ncd), .ref e1, .ref e2, .ref e3])), (e1, .inl (cI, 3, .inl (fun j => nI (Ld j)))), (e2, .inl (cI, 4, .inl cfd)), (e3, .inl (cI, 192, .inl pfd)), (oA, .inr (2, [.int knA, .int flA, .int (nI stA), .int (nI sA), .ref bA])), (bA, .inl (cI, rrA, .inl recA)), (oB, .inr (2, [.int knB, .int flB, .int (nI stB), .int (nI sB), .ref bB])), (bB, .inl (cI, rrB, .inl recB)), (ra, .inr (5, [.int rkn, .int ran, .int rr2, .int rr3, .int rr4, .int (nI rt), .ref a6])), (a6, .inl (cI, 38, .inl rpa)), (cu, .inr (0, [.ref f0, .int (nI lz), .int can, .ref a3l, .int cts, .ref a5t])), (a3l, .inl (cI, 2, .inl lk)), (a5t, .inl (cI, 2, .inl td)), (f0, .inr (4, [.int fc, .ref g1, .ref g2, .ref g3])), (g1, .inl (cI, 3, .inl (fun j => nI (FL j)))), (g2, .inl (cI, 4, .inl fcf)), (g3, .inl (cI, 192, .inl fpf)), (x0, .inr (1, [.int i0, .int i1, .ref a2, .ref a3, .ref s4, .ref s5, .int i6, .ref a7, .ref a8, .ref a9])), (s4, .inr (7, [.ref w4])), (w4, .inl (cI, 34, .inl f4)), (s5, .inr (7, [.ref w5])), (w5, .inl (cI, 34, .inl f5)), (a2, .inl (cI, 3000, .inl ef)), (a7, .inl (cI, rl, .inl rf)), (a8, .inl (cI, 4096, .inl sl)), (a9, .inl (cI, 3000, .inl cm)), (a3, .inl (cI, 38, .inl pp)), (h0, .inr (8, [.ref a, .int (nI tz), .ref r0, .int fp, .int ld, .ref p0, .ref m0, .ref x0, .ref oA, .ref oB, .ref ra, .ref cu])), (m0, .inr (3, [.ref ms, .int vst, .int (nI e_2), .int vm, .ref md])), (ms, .inr (7, [.ref mw])), (mw, .inl (cI, 34, .inl e_3)), (md, .inl (cI, 38, .inl vd)), (p0, .inr (4, [.int (nI nc), .ref b1, .ref b2, .ref b3])), (b1, .inl (cI, 3, .inl (fun j => nI (L j)))), (b2, .inl (cI, 4, .inl cf)), (b3, .inl (cI, 192, .inl pf))] ++ w9) := hD
    refine W.widen (k := 63 + (rrA / 17) + (rrB / 17) + 10 + ((rl - 1600) / 4800)) (n := 584682 + (2 * rrA + 51000 * (rrA / 51000)) + (2 * rrB + 51000 * (rrB / 51000)) + 11814 + (2 * (rl - 1600))) (Nat.le_refl _) (Nat.le_refl _) ?_
    have hP := gq_subP (X' := [(h0, .inr (8, [.ref a, .int (nI tz), .ref r0, .int fp, .int ld, .ref p0, .ref m0, .ref x0, .ref oA, .ref oB, .ref ra, .ref cu])), (a, .inl (cB, 4000, .inl f)), (r0, .inr (6, [.ref d0, .int pv, .int fv, .int lp, .ref k4, .ref k5, .ref k6, .ref k7, .int (nI t), .int tl, .int vr, .int vl])), (k4, .inl (cI, 501, .inl (fun j => nI (Kd j)))), (k5, .inl (cI, 501, .inl sf)), (k6, .inl (cI, 501, .inl nf)), (k7, .inl (cI, 6, .inl (fun j => nI (Tk j)))), (p0, .inr (4, [.int (nI nc), .ref b1, .ref b2, .ref b3])), (b1, .inl (cI, 3, .inl (fun j => nI (L j)))), (b2, .inl (cI, 4, .inl cf)), (b3, .inl (cI, 192, .inl pf)), (d0, .inr (4, [.int (nI ncd), .ref e1, .ref e2, .ref e3])), (e1, .inl (cI, 3, .inl (fun j => nI (Ld j)))), (e2, .inl (cI, 4, .inl cfd)), (e3, .inl (cI, 192, .inl pfd)), (m0, .inr (3, [.ref ms, .int vst, .int (nI e_2), .int vm, .ref md])), (ms, .inr (7, [.ref mw])), (mw, .inl (cI, 34, .inl e_3)), (md, .inl (cI, 38, .inl vd)), (oA, .inr (2, [.int knA, .int flA, .int (nI stA), .int (nI sA), .ref bA])), (bA, .inl (cI, rrA, .inl recA)), (oB, .inr (2, [.int knB, .int flB, .int (nI stB), .int (nI sB), .ref bB])), (bB, .inl (cI, rrB, .inl recB)), (ra, .inr (5, [.int rkn, .int ran, .int rr2, .int rr3, .int rr4, .int (nI rt), .ref a6])), (a6, .inl (cI, 38, .inl rpa)), (cu, .inr (0, [.ref f0, .int (nI lz), .int can, .ref a3l, .int cts, .ref a5t])), (a3l, .inl (cI, 2, .inl lk)), (a5t, .inl (cI, 2, .inl td)), (f0, .inr (4, [.int fc, .ref g1, .ref g2, .ref g3])), (g1, .inl (cI, 3, .inl (fun j => nI (FL j)))), (g2, .inl (cI, 4, .inl fcf)), (g3, .inl (cI, 192, .inl fpf)), (x0, .inr (1, [.int i0, .int i1, .ref a2, .ref a3, .ref s4, .ref s5, .int i6, .ref a7, .ref a8, .ref a9])), (s4, .inr (7, [.ref w4])), (w4, .inl (cI, 34, .inl f4)), (s5, .inr (7, [.ref w5])), (w5, .inl (cI, 34, .inl f5)), (a2, .inl (cI, 3000, .inl ef)), (a7, .inl (cI, rl, .inl rf)), (a8, .inl (cI, 4096, .inl sl)), (a9, .inl (cI, 3000, .inl cm)), (a3, .inl (cI, 38, .inl pp))]) hP [33, 0, 1, 2, 3, 4, 5, 38, 39, 40, 41, 6, 7, 8, 9, 34, 35, 36, 37, 10, 11, 12, 13, 14, 15, 16, 17, 18, 19, 20, 21, 22, 23, 24, 25, 26, 27, 28, 29, 30, 31, 32] rfl
    have hD := gq_subD (X' := [(h0, .inr (8, [.ref a, .int (nI tz), .ref r0, .int fp, .int ld, .ref p0, .ref m0, .ref x0, .ref oA, .ref oB, .ref ra, .ref cu])), (a, .inl (cB, 4000, .inl f)), (r0, .inr (6, [.ref d0, .int pv, .int fv, .int lp, .ref k4, .ref k5, .ref k6, .ref k7, .int (nI t), .int tl, .int vr, .int vl])), (k4, .inl (cI, 501, .inl (fun j => nI (Kd j)))), (k5, .inl (cI, 501, .inl sf)), (k6, .inl (cI, 501, .inl nf)), (k7, .inl (cI, 6, .inl (fun j => nI (Tk j)))), (p0, .inr (4, [.int (nI nc), .ref b1, .ref b2, .ref b3])), (b1, .inl (cI, 3, .inl (fun j => nI (L j)))), (b2, .inl (cI, 4, .inl cf)), (b3, .inl (cI, 192, .inl pf)), (d0, .inr (4, [.int (nI ncd), .ref e1, .ref e2, .ref e3])), (e1, .inl (cI, 3, .inl (fun j => nI (Ld j)))), (e2, .inl (cI, 4, .inl cfd)), (e3, .inl (cI, 192, .inl pfd)), (m0, .inr (3, [.ref ms, .int vst, .int (nI e_2), .int vm, .ref md])), (ms, .inr (7, [.ref mw])), (mw, .inl (cI, 34, .inl e_3)), (md, .inl (cI, 38, .inl vd)), (oA, .inr (2, [.int knA, .int flA, .int (nI stA), .int (nI sA), .ref bA])), (bA, .inl (cI, rrA, .inl recA)), (oB, .inr (2, [.int knB, .int flB, .int (nI stB), .int (nI sB), .ref bB])), (bB, .inl (cI, rrB, .inl recB)), (ra, .inr (5, [.int rkn, .int ran, .int rr2, .int rr3, .int rr4, .int (nI rt), .ref a6])), (a6, .inl (cI, 38, .inl rpa)), (cu, .inr (0, [.ref f0, .int (nI lz), .int can, .ref a3l, .int cts, .ref a5t])), (a3l, .inl (cI, 2, .inl lk)), (a5t, .inl (cI, 2, .inl td)), (f0, .inr (4, [.int fc, .ref g1, .ref g2, .ref g3])), (g1, .inl (cI, 3, .inl (fun j => nI (FL j)))), (g2, .inl (cI, 4, .inl fcf)), (g3, .inl (cI, 192, .inl fpf)), (x0, .inr (1, [.int i0, .int i1, .ref a2, .ref a3, .ref s4, .ref s5, .int i6, .ref a7, .ref a8, .ref a9])), (s4, .inr (7, [.ref w4])), (w4, .inl (cI, 34, .inl f4)), (s5, .inr (7, [.ref w5])), (w5, .inl (cI, 34, .inl f5)), (a2, .inl (cI, 3000, .inl ef)), (a7, .inl (cI, rl, .inl rf)), (a8, .inl (cI, 4096, .inl sl)), (a9, .inl (cI, 3000, .inl cm)), (a3, .inl (cI, 38, .inl pp))]) hD [33, 0, 1, 2, 3, 4, 5, 38, 39, 40, 41, 6, 7, 8, 9, 34, 35, 36, 37, 10, 11, 12, 13, 14, 15, 16, 17, 18, 19, 20, 21, 22, 23, 24, 25, 26, 27, 28, 29, 30, 31, 32] (by decide) rfl
    exact kk e_1 _ tz f fp ld nc L cf pf vst e_2 vm vd _ _ H locs (Or.inr (HallE_mk cI cB cZ h0 tz f fp ld nc L cf pf vst e_2 vm vd a r0 k4 k5 k6 k7 p0 b1 b2 b3 d0 e1 e2 e3 m0 ms mw md oA oB ra a6 cu f0 g1 g2 g3 a3l a5t pv fv lp t tl vr vl Kd sf nf Tk ncd Ld cfd pfd e_3 knA flA stA sA bA rrA recA knB flB stB sB bB rrB recB rkn ran rr2 rr3 rr4 rt rpa lz can cts td lk fc FL fcf fpf x0 a2 s4 w4 s5 w5 a8 a9 a3 i0 i1 i6 a7 rl rf f4 f5 ef sl cm pp htz hR hTk hgo hq_5 hq_6 hsA hrA hmA hsB hrB hmB hrt hlz hrl hrm)) ⟨hx334_0, rfl, rfl, rfl, rfl, rfl, rfl, rfl, rfl, rfl, rfl, rfl⟩ hP hD hS
set_option maxHeartbeats 4000000 in
set_option maxRecDepth 100000 in
theorem hl_register {p : Program} {l : Launch} {e : Env} {s : State} {m : MethodId} {below : List Frame} {meth : Method} {c : Code} {b : Nat} {A : Nat → Prop} {Q : State → Prop} {D : va_G} {cI cB cZ : ClassId} {K : gKS} (G : gL p s m c b A D cI cB cZ K) {H : Heap} {locs : List Loc} {ls : Array Slot} {w8 w9 : va_W} {h0 tz kc ns : Nat} {f : Nat → Int32} {fp ld : Int32} {nc : Nat} {L : Nat → Nat} {cf : Nat → Int32} {pf : Nat → Int32} {vst : Int32} {vk : Nat} {vm : Int32} {vd : Nat → Int32} (hH : HallI cI cB cZ h0 w8 tz f fp ld nc L cf pf vst vk vm vd kc ns) (hP : va_P D vwCl (w8 ++ w9) H) (hD : va_D A (w8 ++ w9)) (hS : va_S A s.heap H locs) (hl : ls.size = 4 ∧ True) (z1 : Int32) (z2 : Int32) (kk : ∀ (r : Int32) (w8' : va_W) (tz9 : Nat) (f9 : Nat → Int32) (fp9 ld9 : Int32) (nc9 : Nat) (L9 : Nat → Nat) (cf9 : Nat → Int32) (pf9 : Nat → Int32) (vst9 : Int32) (vk9 : Nat) (vm9 : Int32) (vd9 : Nat → Int32) (kc9 ns9 : Nat) (H1 : Heap) (locs1 : List Loc), HallI cI cB cZ h0 w8' tz9 f9 fp9 ld9 nc9 L9 cf9 pf9 vst9 vk9 vm9 vd9 kc9 ns9 → (rQ (fun a b c => ¬ vst = 0 ∧ ¬ ld = 0 ∧ a < nc ∧ b < 3 ∧ c = 0) (fun a b _ => (gRun pf cf vm vd vk) ((a * 3) + b)) 0 z1 z2 (nI 0) r ∧ tz = tz9 ∧ f = f9 ∧ fp = fp9 ∧ ld = ld9 ∧ nc = nc9 ∧ L = L9 ∧ cf = cf9 ∧ pf = pf9 ∧ vst = vst9 ∧ vk = vk9 ∧ vm = vm9 ∧ vd = vd9) → va_P D vwCl (w8' ++ w9) H1 → va_D A (w8' ++ w9) → va_S A s.heap H1 locs1 → W p l e room_1 s m #[Value.ref b] below meth c H1 locs1 kc9 ns9 Q (F0 m 360 ls [.int r])) : W p l e room_1 s m #[Value.ref b] below meth c H locs kc ns Q (F0 m 357 ls [.int z2, .int z1, .ref h0]) := by
  obtain ⟨hx, hb, hml, hown, hts, hA, hK, hN, hE⟩ := G
  rcases hH with hH | hH
  · unfold HallN at hH
    obtain ⟨a, hH⟩ := hH
    obtain ⟨r0, hH⟩ := hH
    obtain ⟨k4, hH⟩ := hH
    obtain ⟨k5, hH⟩ := hH
    obtain ⟨k6, hH⟩ := hH
    obtain ⟨k7, hH⟩ := hH
    obtain ⟨p0, hH⟩ := hH
    obtain ⟨b1, hH⟩ := hH
    obtain ⟨b2, hH⟩ := hH
    obtain ⟨b3, hH⟩ := hH
    obtain ⟨d0, hH⟩ := hH
    obtain ⟨e1, hH⟩ := hH
    obtain ⟨e2, hH⟩ := hH
    obtain ⟨e3, hH⟩ := hH
    obtain ⟨m0, hH⟩ := hH
    obtain ⟨ms, hH⟩ := hH
    obtain ⟨mw, hH⟩ := hH
    obtain ⟨md, hH⟩ := hH
    obtain ⟨oA, hH⟩ := hH
    obtain ⟨oB, hH⟩ := hH
    obtain ⟨ra, hH⟩ := hH
    obtain ⟨a6, hH⟩ := hH
    obtain ⟨cu, hH⟩ := hH
    obtain ⟨f0, hH⟩ := hH
    obtain ⟨g1, hH⟩ := hH
    obtain ⟨g2, hH⟩ := hH
    obtain ⟨g3, hH⟩ := hH
    obtain ⟨a3l, hH⟩ := hH
    obtain ⟨a5t, hH⟩ := hH
    obtain ⟨pv, hH⟩ := hH
    obtain ⟨fv, hH⟩ := hH
    obtain ⟨lp, hH⟩ := hH
    obtain ⟨t, hH⟩ := hH
    obtain ⟨tl, hH⟩ := hH
    obtain ⟨vr, hH⟩ := hH
    obtain ⟨vl, hH⟩ := hH
    obtain ⟨Kd, hH⟩ := hH
    obtain ⟨sf, hH⟩ := hH
    obtain ⟨nf, hH⟩ := hH
    obtain ⟨Tk, hH⟩ := hH
    obtain ⟨ncd, hH⟩ := hH
    obtain ⟨Ld, hH⟩ := hH
    obtain ⟨cfd, hH⟩ := hH
    obtain ⟨pfd, hH⟩ := hH
    obtain ⟨mf, hH⟩ := hH
    obtain ⟨flA, hH⟩ := hH
    obtain ⟨stA, hH⟩ := hH
    obtain ⟨sA, hH⟩ := hH
    obtain ⟨bA, hH⟩ := hH
    obtain ⟨rrA, hH⟩ := hH
    obtain ⟨recA, hH⟩ := hH
    obtain ⟨flB, hH⟩ := hH
    obtain ⟨stB, hH⟩ := hH
    obtain ⟨sB, hH⟩ := hH
    obtain ⟨bB, hH⟩ := hH
    obtain ⟨rrB, hH⟩ := hH
    obtain ⟨recB, hH⟩ := hH
    obtain ⟨ran, hH⟩ := hH
    obtain ⟨rr2, hH⟩ := hH
    obtain ⟨rr3, hH⟩ := hH
    obtain ⟨rr4, hH⟩ := hH
    obtain ⟨rt, hH⟩ := hH
    obtain ⟨rpa, hH⟩ := hH
    obtain ⟨lz, hH⟩ := hH
    obtain ⟨can, hH⟩ := hH
    obtain ⟨cts, hH⟩ := hH
    obtain ⟨td, hH⟩ := hH
    obtain ⟨lk, hH⟩ := hH
    obtain ⟨fc, hH⟩ := hH
    obtain ⟨FL, hH⟩ := hH
    obtain ⟨fcf, hH⟩ := hH
    obtain ⟨fpf, hH⟩ := hH
    obtain ⟨htz, hH⟩ := hH
    obtain ⟨hR, hH⟩ := hH
    obtain ⟨hTk, hH⟩ := hH
    obtain ⟨hgo, hH⟩ := hH
    obtain ⟨hmk, hH⟩ := hH
    obtain ⟨hM, hH⟩ := hH
    obtain ⟨hsA, hH⟩ := hH
    obtain ⟨hrA, hH⟩ := hH
    obtain ⟨hmA, hH⟩ := hH
    obtain ⟨hsB, hH⟩ := hH
    obtain ⟨hrB, hH⟩ := hH
    obtain ⟨hmB, hH⟩ := hH
    obtain ⟨hrt, hH⟩ := hH
    obtain ⟨hlz, hH⟩ := hH
    obtain ⟨rfl, rfl, rfl⟩ := hH
    obtain ⟨hc, hL6, hI5⟩ := id hgo
    have hL := gL6_8 hL6
    have hI := gG_up (b' := 7) hI5 (by decide)
    have hkb := gq_kN hmA hmB
    refine gq_goi (wc := [(h0, .inr (8, [.ref a, .int (nI tz), .ref r0, .int fp, .int ld, .ref p0, .ref m0, .null, .ref oA, .ref oB, .ref ra, .ref cu])), (m0, .inr (3, [.ref ms, .int vst, .int (nI vk), .int vm, .ref md])), (ms, .inr (7, [.ref mw])), (mw, .inl (cI, 34, .inl mf)), (p0, .inr (4, [.int (nI nc), .ref b1, .ref b2, .ref b3]))]) (wr := [(a, .inl (cB, 4000, .inl f)), (r0, .inr (6, [.ref d0, .int pv, .int fv, .int lp, .ref k4, .ref k5, .ref k6, .ref k7, .int (nI t), .int tl, .int vr, .int vl])), (k4, .inl (cI, 501, .inl (fun j => nI (Kd j)))), (k5, .inl (cI, 501, .inl sf)), (k6, .inl (cI, 501, .inl nf)), (k7, .inl (cI, 6, .inl (fun j => nI (Tk j)))), (b1, .inl (cI, 3, .inl (fun j => nI (L j)))), (b2, .inl (cI, 4, .inl cf)), (b3, .inl (cI, 192, .inl pf)), (d0, .inr (4, [.int (nI ncd), .ref e1, .ref e2, .ref e3])), (e1, .inl (cI, 3, .inl (fun j => nI (Ld j)))), (e2, .inl (cI, 4, .inl cfd)), (e3, .inl (cI, 192, .inl pfd)), (md, .inl (cI, 38, .inl vd)), (oA, .inr (2, [.int 0, .int flA, .int (nI stA), .int (nI sA), .ref bA])), (bA, .inl (cI, rrA, .inl recA)), (oB, .inr (2, [.int 0, .int flB, .int (nI stB), .int (nI sB), .ref bB])), (bB, .inl (cI, rrB, .inl recB)), (ra, .inr (5, [.int 0, .int ran, .int rr2, .int rr3, .int rr4, .int (nI rt), .ref a6])), (a6, .inl (cI, 38, .inl rpa)), (cu, .inr (0, [.ref f0, .int (nI lz), .int can, .ref a3l, .int cts, .ref a5t])), (a3l, .inl (cI, 2, .inl lk)), (a5t, .inl (cI, 2, .inl td)), (f0, .inr (4, [.int fc, .ref g1, .ref g2, .ref g3])), (g1, .inl (cI, 3, .inl (fun j => nI (FL j)))), (g2, .inl (cI, 4, .inl fcf)), (g3, .inl (cI, 192, .inl fpf))]) (va_runV (As := [.int z1, .int z2]) (rest := []) ⟨hx, hb, hml, hown, hts⟩ (x_register8 l D cI cB cZ h0 ld (.ref a) (.int (nI tz)) (.ref r0) (.int fp) (.null) (.ref oA) (.ref oB) (.ref ra) (.ref cu) m0 ms mw vst (.int (nI vk)) (.int vm) (.ref md) mf p0 nc (.ref b1) (.ref b2) (.ref b3) z1 z2 hc _) (cwV 2 hts gP_law__x_register8 rfl rfl rfl (by decide +kernel) ⟨Nat.le_of_ble_eq_true rfl, Nat.le_of_ble_eq_true rfl⟩) (gx_preV (ci := 8) (q0 := 0) hK gN.nil (gq_Pl hP) (gq_Dl hD) [0, 15, 16, 17, 7] rfl rfl rfl rfl) rfl rfl hl.1 rfl (lv_room (Nat.le_of_ble_eq_true rfl)) dL_law_357 ⟨(Nat.le_trans (Nat.add_le_add_right hkb.1 _) (Nat.le_of_ble_eq_true rfl)), (Nat.le_trans (Nat.add_le_add_right hkb.2 _) (Nat.le_of_ble_eq_true rfl))⟩) hP hD hS hA [0, 15, 16, 17, 7] [1, 2, 3, 4, 5, 6, 8, 9, 10, 11, 12, 13, 14, 18, 19, 20, 21, 22, 23, 24, 25, 26, 27, 28, 29, 30, 31] rfl rfl rfl (by decide) (fun r1 w1 H locs hp hP hD hS => ?_)
    obtain ⟨e_1, hp⟩ := hp
    obtain ⟨hx357_0, hp⟩ := hp
    obtain ⟨h9, hp⟩ := hp
    subst hp
    have h9 := h9.symm
    subst h9
    have hx357_0 : rQ (fun a b c => ¬ vst = 0 ∧ ¬ ld = 0 ∧ a < nc ∧ b < 3 ∧ c = 0) (fun a b _ => mf ((a * 3) + b)) 0 z1 z2 (nI 0) e_1 := hx357_0
    have hP : va_P D vwCl ([(a, .inl (cB, 4000, .inl f)), (r0, .inr (6, [.ref d0, .int pv, .int fv, .int lp, .ref k4, .ref k5, .ref k6, .ref k7, .int (nI t), .int tl, .int vr, .int vl])), (k4, .inl (cI, 501, .inl (fun j => nI (Kd j)))), (k5, .inl (cI, 501, .inl sf)), (k6, .inl (cI, 501, .inl nf)), (k7, .inl (cI, 6, .inl (fun j => nI (Tk j)))), (b1, .inl (cI, 3, .inl (fun j => nI (L j)))), (b2, .inl (cI, 4, .inl cf)), (b3, .inl (cI, 192, .inl pf)), (d0, .inr (4, [.int (nI ncd), .ref e1, .ref e2, .ref e3])), (e1, .inl (cI, 3, .inl (fun j => nI (Ld j)))), (e2, .inl (cI, 4, .inl cfd)), (e3, .inl (cI, 192, .inl pfd)), (md, .inl (cI, 38, .inl vd)), (oA, .inr (2, [.int 0, .int flA, .int (nI stA), .int (nI sA), .ref bA])), (bA, .inl (cI, rrA, .inl recA)), (oB, .inr (2, [.int 0, .int flB, .int (nI stB), .int (nI sB), .ref bB])), (bB, .inl (cI, rrB, .inl recB)), (ra, .inr (5, [.int 0, .int ran, .int rr2, .int rr3, .int rr4, .int (nI rt), .ref a6])), (a6, .inl (cI, 38, .inl rpa)), (cu, .inr (0, [.ref f0, .int (nI lz), .int can, .ref a3l, .int cts, .ref a5t])), (a3l, .inl (cI, 2, .inl lk)), (a5t, .inl (cI, 2, .inl td)), (f0, .inr (4, [.int fc, .ref g1, .ref g2, .ref g3])), (g1, .inl (cI, 3, .inl (fun j => nI (FL j)))), (g2, .inl (cI, 4, .inl fcf)), (g3, .inl (cI, 192, .inl fpf)), (h0, .inr (8, [.ref a, .int (nI tz), .ref r0, .int fp, .int ld, .ref p0, .ref m0, .null, .ref oA, .ref oB, .ref ra, .ref cu])), (m0, .inr (3, [.ref ms, .int vst, .int (nI vk), .int vm, .ref md])), (ms, .inr (7, [.ref mw])), (mw, .inl (cI, 34, .inl mf)), (p0, .inr (4, [.int (nI nc), .ref b1, .ref b2, .ref b3]))] ++ w9) H := hP
    have hD : va_D A ([(a, .inl (cB, 4000, .inl f)), (r0, .inr (6, [.ref d0, .int pv, .int fv, .int lp, .ref k4, .ref k5, .ref k6, .ref k7, .int (nI t), .int tl, .int vr, .int vl])), (k4, .inl (cI, 501, .inl (fun j => nI (Kd j)))), (k5, .inl (cI, 501, .inl sf)), (k6, .inl (cI, 501, .inl nf)), (k7, .inl (cI, 6, .inl (fun j => nI (Tk j)))), (b1, .inl (cI, 3, .inl (fun j => nI (L j)))), (b2, .inl (cI, 4, .inl cf)), (b3, .inl (cI, 192, .inl pf)), (d0, .inr (4, [.int (nI ncd), .ref e1, .ref e2, .ref e3])), (e1, .inl (cI, 3, .inl (fun j => nI (Ld j)))), (e2, .inl (cI, 4, .inl cfd)), (e3, .inl (cI, 192, .inl pfd)), (md, .inl (cI, 38, .inl vd)), (oA, .inr (2, [.int 0, .int flA, .int (nI stA), .int (nI sA), .ref bA])), (bA, .inl (cI, rrA, .inl recA)), (oB, .inr (2, [.int 0, .int flB, .int (nI stB), .int (nI sB), .ref bB])), (bB, .inl (cI, rrB, .inl recB)), (ra, .inr (5, [.int 0, .int ran, .int rr2, .int rr3, .int rr4, .int (nI rt), .ref a6])), (a6, .inl (cI, 38, .inl rpa)), (cu, .inr (0, [.ref f0, .int (nI lz), .int can, .ref a3l, .int cts, .ref a5t])), (a3l, .inl (cI, 2, .inl lk)), (a5t, .inl (cI, 2, .inl td)), (f0, .inr (4, [.int fc, .ref g1, .ref g2, .ref g3])), (g1, .inl (cI, 3, .inl (fun j => nI (FL j)))), (g2, .inl (cI, 4, .inl fcf)), (g3, .inl (cI, 192, .inl fpf)), (h0, .inr (8, [.ref a, .int (nI tz), .ref r0, .int fp, .int ld, .ref p0, .ref m0, .null, .ref oA, .ref oB, .ref ra, .ref cu])), (m0, .inr (3, [.ref ms, .int vst, .int (nI vk), .int vm, .ref md])), (ms, .inr (7, [.ref mw])), (mw, .inl (cI, 34, .inl mf)), (p0, .inr (4, [.int (nI nc), .ref b1, .ref b2, .ref b3]))] ++ w9) := hD
    refine W.widen (k := 63 + (rrA / 17) + (rrB / 17)) (n := 584682 + (2 * rrA + 51000 * (rrA / 51000)) + (2 * rrB + 51000 * (rrB / 51000))) (Nat.le_refl _) (Nat.le_refl _) ?_
    have hP := gq_subP (X' := [(h0, .inr (8, [.ref a, .int (nI tz), .ref r0, .int fp, .int ld, .ref p0, .ref m0, .null, .ref oA, .ref oB, .ref ra, .ref cu])), (a, .inl (cB, 4000, .inl f)), (r0, .inr (6, [.ref d0, .int pv, .int fv, .int lp, .ref k4, .ref k5, .ref k6, .ref k7, .int (nI t), .int tl, .int vr, .int vl])), (k4, .inl (cI, 501, .inl (fun j => nI (Kd j)))), (k5, .inl (cI, 501, .inl sf)), (k6, .inl (cI, 501, .inl nf)), (k7, .inl (cI, 6, .inl (fun j => nI (Tk j)))), (p0, .inr (4, [.int (nI nc), .ref b1, .ref b2, .ref b3])), (b1, .inl (cI, 3, .inl (fun j => nI (L j)))), (b2, .inl (cI, 4, .inl cf)), (b3, .inl (cI, 192, .inl pf)), (d0, .inr (4, [.int (nI ncd), .ref e1, .ref e2, .ref e3])), (e1, .inl (cI, 3, .inl (fun j => nI (Ld j)))), (e2, .inl (cI, 4, .inl cfd)), (e3, .inl (cI, 192, .inl pfd)), (m0, .inr (3, [.ref ms, .int vst, .int (nI vk), .int vm, .ref md])), (ms, .inr (7, [.ref mw])), (mw, .inl (cI, 34, .inl mf)), (md, .inl (cI, 38, .inl vd)), (oA, .inr (2, [.int 0, .int flA, .int (nI stA), .int (nI sA), .ref bA])), (bA, .inl (cI, rrA, .inl recA)), (oB, .inr (2, [.int 0, .int flB, .int (nI stB), .int (nI sB), .ref bB])), (bB, .inl (cI, rrB, .inl recB)), (ra, .inr (5, [.int 0, .int ran, .int rr2, .int rr3, .int rr4, .int (nI rt), .ref a6])), (a6, .inl (cI, 38, .inl rpa)), (cu, .inr (0, [.ref f0, .int (nI lz), .int can, .ref a3l, .int cts, .ref a5t])), (a3l, .inl (cI, 2, .inl lk)), (a5t, .inl (cI, 2, .inl td)), (f0, .inr (4, [.int fc, .ref g1, .ref g2, .ref g3])), (g1, .inl (cI, 3, .inl (fun j => nI (FL j)))), (g2, .inl (cI, 4, .inl fcf)), (g3, .inl (cI, 192, .inl fpf))]) hP [27, 0, 1, 2, 3, 4, 5, 31, 6, 7, 8, 9, 10, 11, 12, 28, 29, 30, 13, 14, 15, 16, 17, 18, 19, 20, 21, 22, 23, 24, 25, 26] rfl
    have hD := gq_subD (X' := [(h0, .inr (8, [.ref a, .int (nI tz), .ref r0, .int fp, .int ld, .ref p0, .ref m0, .null, .ref oA, .ref oB, .ref ra, .ref cu])), (a, .inl (cB, 4000, .inl f)), (r0, .inr (6, [.ref d0, .int pv, .int fv, .int lp, .ref k4, .ref k5, .ref k6, .ref k7, .int (nI t), .int tl, .int vr, .int vl])), (k4, .inl (cI, 501, .inl (fun j => nI (Kd j)))), (k5, .inl (cI, 501, .inl sf)), (k6, .inl (cI, 501, .inl nf)), (k7, .inl (cI, 6, .inl (fun j => nI (Tk j)))), (p0, .inr (4, [.int (nI nc), .ref b1, .ref b2, .ref b3])), (b1, .inl (cI, 3, .inl (fun j => nI (L j)))), (b2, .inl (cI, 4, .inl cf)), (b3, .inl (cI, 192, .inl pf)), (d0, .inr (4, [.int (nI ncd), .ref e1, .ref e2, .ref e3])), (e1, .inl (cI, 3, .inl (fun j => nI (Ld j)))), (e2, .inl (cI, 4, .inl cfd)), (e3, .inl (cI, 192, .inl pfd)), (m0, .inr (3, [.ref ms, .int vst, .int (nI vk), .int vm, .ref md])), (ms, .inr (7, [.ref mw])), (mw, .inl (cI, 34, .inl mf)), (md, .inl (cI, 38, .inl vd)), (oA, .inr (2, [.int 0, .int flA, .int (nI stA), .int (nI sA), .ref bA])), (bA, .inl (cI, rrA, .inl recA)), (oB, .inr (2, [.int 0, .int flB, .int (nI stB), .int (nI sB), .ref bB])), (bB, .inl (cI, rrB, .inl recB)), (ra, .inr (5, [.int 0, .int ran, .int rr2, .int rr3, .int rr4, .int (nI rt), .ref a6])), (a6, .inl (cI, 38, .inl rpa)), (cu, .inr (0, [.ref f0, .int (nI lz), .int can, .ref a3l, .int cts, .ref a5t])), (a3l, .inl (cI, 2, .inl lk)), (a5t, .inl (cI, 2, .inl td)), (f0, .inr (4, [.int fc, .ref g1, .ref g2, .ref g3])), (g1, .inl (cI, 3, .inl (fun j => nI (FL j)))), (g2, .inl (cI, 4, .inl fcf)), (g3, .inl (cI, 192, .inl fpf))]) hD [27, 0, 1, 2, 3, 4, 5, 31, 6, 7, 8, 9, 10, 11, 12, 28, 29, 30, 13, 14, 15, 16, 17, 18, 19, 20, 21, 22, 23, 24, 25, 26] (by decide) rfl
    exact kk e_1 _ tz f fp ld nc L cf pf vst vk vm vd _ _ H locs (Or.inl (HallN_mk cI cB cZ h0 tz f fp ld nc L cf pf vst vk vm vd a r0 k4 k5 k6 k7 p0 b1 b2 b3 d0 e1 e2 e3 m0 ms mw md oA oB ra a6 cu f0 g1 g2 g3 a3l a5t pv fv lp t tl vr vl Kd sf nf Tk ncd Ld cfd pfd mf flA stA sA bA rrA recA flB stB sB bB rrB recB ran rr2 rr3 rr4 rt rpa lz can cts td lk fc FL fcf fpf htz hR hTk hgo hmk hM hsA hrA hmA hsB hrB hmB hrt hlz)) ⟨rq_m (ok := fun g a b c => ¬ vst = 0 ∧ ¬ ld = 0 ∧ a < nc ∧ b < 3 ∧ c = 0) (val := fun g a b _ => g ((a * 3) + b)) hM (fun _ _ _ _ h => h.1) hx357_0, rfl, rfl, rfl, rfl, rfl, rfl, rfl, rfl, rfl, rfl, rfl, rfl⟩ hP hD hS
  · unfold HallE at hH
    obtain ⟨a, hH⟩ := hH
    obtain ⟨r0, hH⟩ := hH
    obtain ⟨k4, hH⟩ := hH
    obtain ⟨k5, hH⟩ := hH
    obtain ⟨k6, hH⟩ := hH
    obtain ⟨k7, hH⟩ := hH
    obtain ⟨p0, hH⟩ := hH
    obtain ⟨b1, hH⟩ := hH
    obtain ⟨b2, hH⟩ := hH
    obtain ⟨b3, hH⟩ := hH
    obtain ⟨d0, hH⟩ := hH
    obtain ⟨e1, hH⟩ := hH
    obtain ⟨e2, hH⟩ := hH
    obtain ⟨e3, hH⟩ := hH
    obtain ⟨m0, hH⟩ := hH
    obtain ⟨ms, hH⟩ := hH
    obtain ⟨mw, hH⟩ := hH
    obtain ⟨md, hH⟩ := hH
    obtain ⟨oA, hH⟩ := hH
    obtain ⟨oB, hH⟩ := hH
    obtain ⟨ra, hH⟩ := hH
    obtain ⟨a6, hH⟩ := hH
    obtain ⟨cu, hH⟩ := hH
    obtain ⟨f0, hH⟩ := hH
    obtain ⟨g1, hH⟩ := hH
    obtain ⟨g2, hH⟩ := hH
    obtain ⟨g3, hH⟩ := hH
    obtain ⟨a3l, hH⟩ := hH
    obtain ⟨a5t, hH⟩ := hH
    obtain ⟨pv, hH⟩ := hH
    obtain ⟨fv, hH⟩ := hH
    obtain ⟨lp, hH⟩ := hH
    obtain ⟨t, hH⟩ := hH
    obtain ⟨tl, hH⟩ := hH
    obtain ⟨vr, hH⟩ := hH
    obtain ⟨vl, hH⟩ := hH
    obtain ⟨Kd, hH⟩ := hH
    obtain ⟨sf, hH⟩ := hH
    obtain ⟨nf, hH⟩ := hH
    obtain ⟨Tk, hH⟩ := hH
    obtain ⟨ncd, hH⟩ := hH
    obtain ⟨Ld, hH⟩ := hH
    obtain ⟨cfd, hH⟩ := hH
    obtain ⟨pfd, hH⟩ := hH
    obtain ⟨mf, hH⟩ := hH
    obtain ⟨knA, hH⟩ := hH
    obtain ⟨flA, hH⟩ := hH
    obtain ⟨stA, hH⟩ := hH
    obtain ⟨sA, hH⟩ := hH
    obtain ⟨bA, hH⟩ := hH
    obtain ⟨rrA, hH⟩ := hH
    obtain ⟨recA, hH⟩ := hH
    obtain ⟨knB, hH⟩ := hH
    obtain ⟨flB, hH⟩ := hH
    obtain ⟨stB, hH⟩ := hH
    obtain ⟨sB, hH⟩ := hH
    obtain ⟨bB, hH⟩ := hH
    obtain ⟨rrB, hH⟩ := hH
    obtain ⟨recB, hH⟩ := hH
    obtain ⟨rkn, hH⟩ := hH
    obtain ⟨ran, hH⟩ := hH
    obtain ⟨rr2, hH⟩ := hH
    obtain ⟨rr3, hH⟩ := hH
    obtain ⟨rr4, hH⟩ := hH
    obtain ⟨rt, hH⟩ := hH
    obtain ⟨rpa, hH⟩ := hH
    obtain ⟨lz, hH⟩ := hH
    obtain ⟨can, hH⟩ := hH
    obtain ⟨cts, hH⟩ := hH
    obtain ⟨td, hH⟩ := hH
    obtain ⟨lk, hH⟩ := hH
    obtain ⟨fc, hH⟩ := hH
    obtain ⟨FL, hH⟩ := hH
    obtain ⟨fcf, hH⟩ := hH
    obtain ⟨fpf, hH⟩ := hH
    obtain ⟨x0, hH⟩ := hH
    obtain ⟨a2, hH⟩ := hH
    obtain ⟨s4, hH⟩ := hH
    obtain ⟨w4, hH⟩ := hH
    obtain ⟨s5, hH⟩ := hH
    obtain ⟨w5, hH⟩ := hH
    obtain ⟨a8, hH⟩ := hH
    obtain ⟨a9, hH⟩ := hH
    obtain ⟨a3, hH⟩ := hH
    obtain ⟨i0, hH⟩ := hH
    obtain ⟨i1, hH⟩ := hH
    obtain ⟨i6, hH⟩ := hH
    obtain ⟨a7, hH⟩ := hH
    obtain ⟨rl, hH⟩ := hH
    obtain ⟨rf, hH⟩ := hH
    obtain ⟨f4, hH⟩ := hH
    obtain ⟨f5, hH⟩ := hH
    obtain ⟨ef, hH⟩ := hH
    obtain ⟨sl, hH⟩ := hH
    obtain ⟨cm, hH⟩ := hH
    obtain ⟨pp, hH⟩ := hH
    obtain ⟨htz, hH⟩ := hH
    obtain ⟨hR, hH⟩ := hH
    obtain ⟨hTk, hH⟩ := hH
    obtain ⟨hgo, hH⟩ := hH
    obtain ⟨hmk, hH⟩ := hH
    obtain ⟨hM, hH⟩ := hH
    obtain ⟨hsA, hH⟩ := hH
    obtain ⟨hrA, hH⟩ := hH
    obtain ⟨hmA, hH⟩ := hH
    obtain ⟨hsB, hH⟩ := hH
    obtain ⟨hrB, hH⟩ := hH
    obtain ⟨hmB, hH⟩ := hH
    obtain ⟨hrt, hH⟩ := hH
    obtain ⟨hlz, hH⟩ := hH
    obtain ⟨hrl, hH⟩ := hH
    obtain ⟨hrm, hH⟩ := hH
    obtain ⟨rfl, rfl, rfl⟩ := hH
    obtain ⟨hc, hL6, hI5⟩ := id hgo
    have hL := gL6_8 hL6
    have hI := gG_up (b' := 7) hI5 (by decide)
    have hkb := gq_k hmA hmB hrm.2
    refine gq_goi (wc := [(h0, .inr (8, [.ref a, .int (nI tz), .ref r0, .int fp, .int ld, .ref p0, .ref m0, .ref x0, .ref oA, .ref oB, .ref ra, .ref cu])), (m0, .inr (3, [.ref ms, .int vst, .int (nI vk), .int vm, .ref md])), (ms, .inr (7, [.ref mw])), (mw, .inl (cI, 34, .inl mf)), (p0, .inr (4, [.int (nI nc), .ref b1, .ref b2, .ref b3]))]) (wr := [(a, .inl (cB, 4000, .inl f)), (r0, .inr (6, [.ref d0, .int pv, .int fv, .int lp, .ref k4, .ref k5, .ref k6, .ref k7, .int (nI t), .int tl, .int vr, .int vl])), (k4, .inl (cI, 501, .inl (fun j => nI (Kd j)))), (k5, .inl (cI, 501, .inl sf)), (k6, .inl (cI, 501, .inl nf)), (k7, .inl (cI, 6, .inl (fun j => nI (Tk j)))), (b1, .inl (cI, 3, .inl (fun j => nI (L j)))), (b2, .inl (cI, 4, .inl cf)), (b3, .inl (cI, 192, .inl pf)), (d0, .inr (4, [.int (nI ncd), .ref e1, .ref e2, .ref e3])), (e1, .inl (cI, 3, .inl (fun j => nI (Ld j)))), (e2, .inl (cI, 4, .inl cfd)), (e3, .inl (cI, 192, .inl pfd)), (md, .inl (cI, 38, .inl vd)), (oA, .inr (2, [.int knA, .int flA, .int (nI stA), .int (nI sA), .ref bA])), (bA, .inl (cI, rrA, .inl recA)), (oB, .inr (2, [.int knB, .int flB, .int (nI stB), .int (nI sB), .ref bB])), (bB, .inl (cI, rrB, .inl recB)), (ra, .inr (5, [.int rkn, .int ran, .int rr2, .int rr3, .int rr4, .int (nI rt), .ref a6])), (a6, .inl (cI, 38, .inl rpa)), (cu, .inr (0, [.ref f0, .int (nI lz), .int can, .ref a3l, .int cts, .ref a5t])), (a3l, .inl (cI, 2, .inl lk)), (a5t, .inl (cI, 2, .inl td)), (f0, .inr (4, [.int fc, .ref g1, .ref g2, .ref g3])), (g1, .inl (cI, 3, .inl (fun j => nI (FL j)))), (g2, .inl (cI, 4, .inl fcf)), (g3, .inl (cI, 192, .inl fpf)), (x0, .inr (1, [.int i0, .int i1, .ref a2, .ref a3, .ref s4, .ref s5, .int i6, .ref a7, .ref a8, .ref a9])), (s4, .inr (7, [.ref w4])), (w4, .inl (cI, 34, .inl f4)), (s5, .inr (7, [.ref w5])), (w5, .inl (cI, 34, .inl f5)), (a2, .inl (cI, 3000, .inl ef)), (a7, .inl (cI, rl, .inl rf)), (a8, .inl (cI, 4096, .inl sl)), (a9, .inl (cI, 3000, .inl cm)), (a3, .inl (cI, 38, .inl pp))]) (va_runV (As := [.int z1, .int z2]) (rest := []) ⟨hx, hb, hml, hown, hts⟩ (x_register8 l D cI cB cZ h0 ld (.ref a) (.int (nI tz)) (.ref r0) (.int fp) (.ref x0) (.ref oA) (.ref oB) (.ref ra) (.ref cu) m0 ms mw vst (.int (nI vk)) (.int vm) (.ref md) mf p0 nc (.ref b1) (.ref b2) (.ref b3) z1 z2 hc _) (cwV 2 hts gP_law__x_register8 rfl rfl rfl (by decide +kernel) ⟨Nat.le_of_ble_eq_true rfl, Nat.le_of_ble_eq_true rfl⟩) (gx_preV (ci := 8) (q0 := 0) hK gN.nil (gq_Pl hP) (gq_Dl hD) [0, 15, 16, 17, 7] rfl rfl rfl rfl) rfl rfl hl.1 rfl (lv_room (Nat.le_of_ble_eq_true rfl)) dL_law_357 ⟨(Nat.le_trans (Nat.add_le_add_right hkb.1 _) (Nat.le_of_ble_eq_true rfl)), (Nat.le_trans (Nat.add_le_add_right hkb.2 _) (Nat.le_of_ble_eq_true rfl))⟩) hP hD hS hA [0, 15, 16, 17, 7] [1, 2, 3, 4, 5, 6, 8, 9, 10, 11, 12, 13, 14, 18, 19, 20, 21, 22, 23, 24, 25, 26, 27, 28, 29, 30, 31, 32, 33, 34, 35, 36, 37, 38, 39, 40, 41] rfl rfl rfl (by decide) (fun r1 w1 H locs hp hP hD hS => ?_)
    obtain ⟨e_1, hp⟩ := hp
    obtain ⟨hx357_0, hp⟩ := hp
    obtain ⟨h9, hp⟩ := hp
    subst hp
    have h9 := h9.symm
    subst h9
    have hx357_0 : rQ (fun a b c => ¬ vst = 0 ∧ ¬ ld = 0 ∧ a < nc ∧ b < 3 ∧ c = 0) (fun a b _ => mf ((a * 3) + b)) 0 z1 z2 (nI 0) e_1 := hx357_0
    have hP : va_P D vwCl ([(a, .inl (cB, 4000, .inl f)), (r0, .inr (6, [.ref d0, .int pv, .int fv, .int lp, .ref k4, .ref k5, .ref k6, .ref k7, .int (nI t), .int tl, .int vr, .int vl])), (k4, .inl (cI, 501, .inl (fun j => nI (Kd j)))), (k5, .inl (cI, 501, .inl sf)), (k6, .inl (cI, 501, .inl nf)), (k7, .inl (cI, 6, .inl (fun j => nI (Tk j)))), (b1, .inl (cI, 3, .inl (fun j => nI (L j)))), (b2, .inl (cI, 4, .inl cf)), (b3, .inl (cI, 192, .inl pf)), (d0, .inr (4, [.int (nI ncd), .ref e1, .ref e2, .ref e3])), (e1, .inl (cI, 3, .inl (fun j => nI (Ld j)))), (e2, .inl (cI, 4, .inl cfd)), (e3, .inl (cI, 192, .inl pfd)), (md, .inl (cI, 38, .inl vd)), (oA, .inr (2, [.int knA, .int flA, .int (nI stA), .int (nI sA), .ref bA])), (bA, .inl (cI, rrA, .inl recA)), (oB, .inr (2, [.int knB, .int flB, .int (nI stB), .int (nI sB), .ref bB])), (bB, .inl (cI, rrB, .inl recB)), (ra, .inr (5, [.int rkn, .int ran, .int rr2, .int rr3, .int rr4, .int (nI rt), .ref a6])), (a6, .inl (cI, 38, .inl rpa)), (cu, .inr (0, [.ref f0, .int (nI lz), .int can, .ref a3l, .int cts, .ref a5t])), (a3l, .inl (cI, 2, .inl lk)), (a5t, .inl (cI, 2, .inl td)), (f0, .inr (4, [.int fc, .ref g1, .ref g2, .ref g3])), (g1, .inl (cI, 3, .inl (fun j => nI (FL j)))), (g2, .inl (cI, 4, .inl fcf)), (g3, .inl (cI, 192, .inl fpf)), (x0, .inr (1, [.int i0, .int i1, .ref a2, .ref a3, .ref s4, .ref s5, .int i6, .ref a7, .ref a8, .ref a9])), (s4, .inr (7, [.ref w4])), (w4, .inl (cI, 34, .inl f4)), (s5, .inr (7, [.ref w5])), (w5, .inl (cI, 34, .inl f5)), (a2, .inl (cI, 3000, .inl ef)), (a7, .inl (cI, rl, .inl rf)), (a8, .inl (cI, 4096, .inl sl)), (a9, .inl (cI, 3000, .inl cm)), (a3, .inl (cI, 38, .inl pp)), (h0, .inr (8, [.ref a, .int (nI tz), .ref r0, .int fp, .int ld, .ref p0, .ref m0, .ref x0, .ref oA, .ref oB, .ref ra, .ref cu])), (m0, .inr (3, [.ref ms, .int vst, .int (nI vk), .int vm, .ref md])), (ms, .inr (7, [.ref mw])), (mw, .inl (cI, 34, .inl mf)), (p0, .inr (4, [.int (nI nc), .ref b1, .ref b2, .ref b3]))] ++ w9) H := hP
    have hD : va_D A ([(a, .inl (cB, 4000, .inl f)), (r0, .inr (6, [.ref d0, .int pv, .int fv, .int lp, .ref k4, .ref k5, .ref k6, .ref k7, .int (nI t), .int tl, .int vr, .int vl])), (k4, .inl (cI, 501, .inl (fun j => nI (Kd j)))), (k5, .inl (cI, 501, .inl sf)), (k6, .inl (cI, 501, .inl nf)), (k7, .inl (cI, 6, .inl (fun j => nI (Tk j)))), (b1, .inl (cI, 3, .inl (fun j => nI (L j)))), (b2, .inl (cI, 4, .inl cf)), (b3, .inl (cI, 192, .inl pf)), (d0, .inr (4, [.int (nI ncd), .ref e1, .ref e2, .ref e3])), (e1, .inl (cI, 3, .inl (fun j => nI (Ld j)))), (e2, .inl (cI, 4, .inl cfd)), (e3, .inl (cI, 192, .inl pfd)), (md, .inl (cI, 38, .inl vd)), (oA, .inr (2, [.int knA, .int flA, .int (nI stA), .int (nI sA), .ref bA])), (bA, .inl (cI, rrA, .inl recA)), (oB, .inr (2, [.int knB, .int flB, .int (nI stB), .int (nI sB), .ref bB])), (bB, .inl (cI, rrB, .inl recB)), (ra, .inr (5, [.int rkn, .int ran, .int rr2, .int rr3, .int rr4, .int (nI rt), .ref a6])), (a6, .inl (cI, 38, .inl rpa)), (cu, .inr (0, [.ref f0, .int (nI lz), .int can, .ref a3l, .int cts, .ref a5t])), (a3l, .inl (cI, 2, .inl lk)), (a5t, .inl (cI, 2, .inl td)), (f0, .inr (4, [.int fc, .ref g1, .ref g2, .ref g3])), (g1, .inl (cI, 3, .inl (fun j => nI (FL j)))), (g2, .inl (cI, 4, .inl fcf)), (g3, .inl (cI, 192, .inl fpf)), (x0, .inr (1, [.int i0, .int i1, .ref a2, .ref a3, .ref s4, .ref s5, .int i6, .ref a7, .ref a8, .ref a9])), (s4, .inr (7, [.ref w4])), (w4, .inl (cI, 34, .inl f4)), (s5, .inr (7, [.ref w5])), (w5, .inl (cI, 34, .inl f5)), (a2, .inl (cI, 3000, .inl ef)), (a7, .inl (cI, rl, .inl rf)), (a8, .inl (cI, 4096, .inl sl)), (a9, .inl (cI, 3000, .inl cm)), (a3, .inl (cI, 38, .inl pp)), (h0, .inr (8, [.ref a, .int (nI tz), .ref r0, .int fp, .int ld, .ref p0, .ref m0, .ref x0, .ref oA, .ref oB, .ref ra, .ref cu])), (m0, .inr (3, [.ref ms, .int vst, .int (nI vk), .int vm, .ref md])), (ms, .inr (7, [.ref mw])), (mw, .inl (cI, 34, .inl mf)), (p0, .inr (4, [.int (nI nc), .ref b1, .ref b2, .ref b3]))] ++ w9) := hD
    refine W.widen (k := 63 + (rrA / 17) + (rrB / 17) + 10 + ((rl - 1600) / 4800)) (n := 584682 + (2 * rrA + 51000 * (rrA / 51000)) + (2 * rrB + 51000 * (rrB / 51000)) + 11814 + (2 * (rl - 1600))) (Nat.le_refl _) (Nat.le_refl _) ?_
    have hP := gq_subP (X' := [(h0, .inr (8, [.ref a, .int (nI tz), .ref r0, .int fp, .int ld, .ref p0, .ref m0, .ref x0, .ref oA, .ref oB, .ref ra, .ref cu])), (a, .inl (cB, 4000, .inl f)), (r0, .inr (6, [.ref d0, .int pv, .int fv, .int lp, .ref k4, .ref k5, .ref k6, .ref k7, .int (nI t), .int tl, .int vr, .int vl])), (k4, .inl (cI, 501, .inl (fun j => nI (Kd j)))), (k5, .inl (cI, 501, .inl sf)), (k6, .inl (cI, 501, .inl nf)), (k7, .inl (cI, 6, .inl (fun j => nI (Tk j)))), (p0, .inr (4, [.int (nI nc), .ref b1, .ref b2, .ref b3])), (b1, .inl (cI, 3, .inl (fun j => nI (L j)))), (b2, .inl (cI, 4, .inl cf)), (b3, .inl (cI, 192, .inl pf)), (d0, .inr (4, [.int (nI ncd), .ref e1, .ref e2, .ref e3])), (e1, .inl (cI, 3, .inl (fun j => nI (Ld j)))), (e2, .inl (cI, 4, .inl cfd)), (e3, .inl (cI, 192, .inl pfd)), (m0, .inr (3, [.ref ms, .int vst, .int (nI vk), .int vm, .ref md])), (ms, .inr (7, [.ref mw])), (mw, .inl (cI, 34, .inl mf)), (md, .inl (cI, 38, .inl vd)), (oA, .inr (2, [.int knA, .int flA, .int (nI stA), .int (nI sA), .ref bA])), (bA, .inl (cI, rrA, .inl recA)), (oB, .inr (2, [.int knB, .int flB, .int (nI stB), .int (nI sB), .ref bB])), (bB, .inl (cI, rrB, .inl recB)), (ra, .inr (5, [.int rkn, .int ran, .int rr2, .int rr3, .int rr4, .int (nI rt), .ref a6])), (a6, .inl (cI, 38, .inl rpa)), (cu, .inr (0, [.ref f0, .int (nI lz), .int can, .ref a3l, .int cts, .ref a5t])), (a3l, .inl (cI, 2, .inl lk)), (a5t, .inl (cI, 2, .inl td)), (f0, .inr (4, [.int fc, .ref g1, .ref g2, .ref g3])), (g1, .inl (cI, 3, .inl (fun j => nI (FL j)))), (g2, .inl (cI, 4, .inl fcf)), (g3, .inl (cI, 192, .inl fpf)), (x0, .inr (1, [.int i0, .int i1, .ref a2, .ref a3, .ref s4, .ref s5, .int i6, .ref a7, .ref a8, .ref a9])), (s4, .inr (7, [.ref w4])), (w4, .inl (cI, 34, .inl f4)), (s5, .inr (7, [.ref w5])), (w5, .inl (cI, 34, .inl f5)), (a2, .inl (cI, 3000, .inl ef)), (a7, .inl (cI, rl, .inl rf)), (a8, .inl (cI, 4096, .inl sl)), (a9, .inl (cI, 3000, .inl cm)), (a3, .inl (cI, 38, .inl pp))]) hP [37, 0, 1, 2, 3, 4, 5, 41, 6, 7, 8, 9, 10, 11, 12, 38, 39, 40, 13, 14, 15, 16, 17, 18, 19, 20, 21, 22, 23, 24, 25, 26, 27, 28, 29, 30, 31, 32, 33, 34, 35, 36] rfl
    have hD := gq_subD (X' := [(h0, .inr (8, [.ref a, .int (nI tz), .ref r0, .int fp, .int ld, .ref p0, .ref m0, .ref x0, .ref oA, .ref oB, .ref ra, .ref cu])), (a, .inl (cB, 4000, .inl f)), (r0, .inr (6, [.ref d0, .int pv, .int fv, .int lp, .ref k4, .ref k5, .ref k6, .ref k7, .int (nI t), .int tl, .int vr, .int vl])), (k4, .inl (cI, 501, .inl (fun j => nI (Kd j)))), (k5, .inl (cI, 501, .inl sf)), (k6, .inl (cI, 501, .inl nf)), (k7, .inl (cI, 6, .inl (fun j => nI (Tk j)))), (p0, .inr (4, [.int (nI nc), .ref b1, .ref b2, .ref b3])), (b1, .inl (cI, 3, .inl (fun j => nI (L j)))), (b2, .inl (cI, 4, .inl cf)), (b3, .inl (cI, 192, .inl pf)), (d0, .inr (4, [.int (nI ncd), .ref e1, .ref e2, .ref e3])), (e1, .inl (cI, 3, .inl (fun j => nI (Ld j)))), (e2, .inl (cI, 4, .inl cfd)), (e3, .inl (cI, 192, .inl pfd)), (m0, .inr (3, [.ref ms, .int vst, .int (nI vk), .int vm, .ref md])), (ms, .inr (7, [.ref mw])), (mw, .inl (cI, 34, .inl mf)), (md, .inl (cI, 38, .inl vd)), (oA, .inr (2, [.int knA, .int flA, .int (nI stA), .int (nI sA), .ref bA])), (bA, .inl (cI, rrA, .inl recA)), (oB, .inr (2, [.int knB, .int flB, .int (nI stB), .int (nI sB), .ref bB])), (bB, .inl (cI, rrB, .inl recB)), (ra, .inr (5, [.int rkn, .int ran, .int rr2, .int rr3, .int rr4, .int (nI rt), .ref a6])), (a6, .inl (cI, 38, .inl rpa)), (cu, .inr (0, [.ref f0, .int (nI lz), .int can, .ref a3l, .int cts, .ref a5t])), (a3l, .inl (cI, 2, .inl lk)), (a5t, .inl (cI, 2, .inl td)), (f0, .inr (4, [.int fc, .ref g1, .ref g2, .ref g3])), (g1, .inl (cI, 3, .inl (fun j => nI (FL j)))), (g2, .inl (cI, 4, .inl fcf)), (g3, .inl (cI, 192, .inl fpf)), (x0, .inr (1, [.int i0, .int i1, .ref a2, .ref a3, .ref s4, .ref s5, .int i6, .ref a7, .ref a8, .ref a9])), (s4, .inr (7, [.ref w4])), (w4, .inl (cI, 34, .inl f4)), (s5, .inr (7, [.ref w5])), (w5, .inl (cI, 34, .inl f5)), (a2, .inl (cI, 3000, .inl ef)), (a7, .inl (cI, rl, .inl rf)), (a8, .inl (cI, 4096, .inl sl)), (a9, .inl (cI, 3000, .inl cm)), (a3, .inl (cI, 38, .inl pp))]) hD [37, 0, 1, 2, 3, 4, 5, 41, 6, 7, 8, 9, 10, 11, 12, 38, 39, 40, 13, 14, 15, 16, 17, 18, 19, 20, 21, 22, 23, 24, 25, 26, 27, 28, 29, 30, 31, 32, 33, 34, 35, 36] (by decide) rfl
    exact kk e_1 _ tz f fp ld nc L cf pf vst vk vm vd _ _ H locs (Or.inr (HallE_mk cI cB cZ h0 tz f fp ld nc L cf pf vst vk vm vd a r0 k4 k5 k6 k7 p0 b1 b2 b3 d0 e1 e2 e3 m0 ms mw md oA oB ra a6 cu f0 g1 g2 g3 a3l a5t pv fv lp t tl vr vl Kd sf nf Tk ncd Ld cfd pfd mf knA flA stA sA bA rrA recA knB flB stB sB bB rrB recB rkn ran rr2 rr3 rr4 rt rpa lz can cts td lk fc FL fcf fpf x0 a2 s4 w4 s5 w5 a8 a9 a3 i0 i1 i6 a7 rl rf f4 f5 ef sl cm pp htz hR hTk hgo hmk hM hsA hrA hmA hsB hrB hmB hrt hlz hrl hrm)) ⟨rq_m (ok := fun g a b c => ¬ vst = 0 ∧ ¬ ld = 0 ∧ a < nc ∧ b < 3 ∧ c = 0) (val := fun g a b _ => g ((a * 3) + b)) hM (fun _ _ _ _ h => h.1) hx357_0, rfl, rfl, rfl, rfl, rfl, rfl, rfl, rfl, rfl, rfl, rfl, rfl⟩ hP hD hS
set_option maxHeartbeats 4000000 in
set_option maxRecDepth 100000 in
theorem hl_memory {p : Program} {l : Launch} {e : Env} {s : State} {m : MethodId} {below : List Frame} {meth : Method} {c : Code} {b : Nat} {A : Nat → Prop} {Q : State → Prop} {D : va_G} {cI cB cZ : ClassId} {K : gKS} (G : gL p s m c b A D cI cB cZ K) {H : Heap} {locs : List Loc} {ls : Array Slot} {w8 w9 : va_W} {h0 tz kc ns : Nat} {f : Nat → Int32} {fp ld : Int32} {nc : Nat} {L : Nat → Nat} {cf : Nat → Int32} {pf : Nat → Int32} {vst : Int32} {vk : Nat} {vm : Int32} {vd : Nat → Int32} (hH : HallI cI cB cZ h0 w8 tz f fp ld nc L cf pf vst vk vm vd kc ns) (hP : va_P D vwCl (w8 ++ w9) H) (hD : va_D A (w8 ++ w9)) (hS : va_S A s.heap H locs) (hl : ls.size = 4 ∧ True) (z1 : Int32) (kk : ∀ (r : Int32) (w8' : va_W) (tz9 : Nat) (f9 : Nat → Int32) (fp9 ld9 : Int32) (nc9 : Nat) (L9 : Nat → Nat) (cf9 : Nat → Int32) (pf9 : Nat → Int32) (vst9 : Int32) (vk9 : Nat) (vm9 : Int32) (vd9 : Nat → Int32) (kc9 ns9 : Nat) (H1 : Heap) (locs1 : List Loc), HallI cI cB cZ h0 w8' tz9 f9 fp9 ld9 nc9 L9 cf9 pf9 vst9 vk9 vm9 vd9 kc9 ns9 → (rQ (fun a b c => ¬ vst = 0 ∧ a < 4 ∧ b = 0 ∧ c = 0) (fun a _ _ => (gRun pf cf vm vd vk) (9 + a)) 0 z1 (nI 0) (nI 0) r ∧ tz = tz9 ∧ f = f9 ∧ fp = fp9 ∧ ld = ld9 ∧ nc = nc9 ∧ L = L9 ∧ cf = cf9 ∧ pf = pf9 ∧ vst = vst9 ∧ vk = vk9 ∧ vm = vm9 ∧ vd = vd9) → va_P D vwCl (w8' ++ w9) H1 → va_D A (w8' ++ w9) → va_S A s.heap H1 locs1 → W p l e room_1 s m #[Value.ref b] below meth c H1 locs1 kc9 ns9 Q (F0 m 388 ls [.int r])) : W p l e room_1 s m #[Value.ref b] below meth c H locs kc ns Q (F0 m 385 ls [.int z1, .ref h0]) := by
  obtain ⟨hx, hb, hml, hown, hts, hA, hK, hN, hE⟩ := G
  rcases hH with hH | hH
  · unfold HallN at hH
    obtain ⟨a, hH⟩ := hH
    obtain ⟨r0, hH⟩ := hH
    obtain ⟨k4, hH⟩ := hH
    obtain ⟨k5, hH⟩ := hH
    obtain ⟨k6, hH⟩ := hH
    obtain ⟨k7, hH⟩ := hH
    obtain ⟨p0, hH⟩ := hH
    obtain ⟨b1, hH⟩ := hH
    obtain ⟨b2, hH⟩ := hH
    obtain ⟨b3, hH⟩ := hH
    obtain ⟨d0, hH⟩ := hH
    obtain ⟨e1, hH⟩ := hH
    obtain ⟨e2, hH⟩ := hH
    obtain ⟨e3, hH⟩ := hH
    obtain ⟨m0, hH⟩ := hH
    obtain ⟨ms, hH⟩ := hH
    obtain ⟨mw, hH⟩ := hH
    obtain ⟨md, hH⟩ := hH
    obtain ⟨oA, hH⟩ := hH
    obtain ⟨oB, hH⟩ := hH
    obtain ⟨ra, hH⟩ := hH
    obtain ⟨a6, hH⟩ := hH
    obtain ⟨cu, hH⟩ := hH
    obtain ⟨f0, hH⟩ := hH
    obtain ⟨g1, hH⟩ := hH
    obtain ⟨g2, hH⟩ := hH
    obtain ⟨g3, hH⟩ := hH
    obtain ⟨a3l, hH⟩ := hH
    obtain ⟨a5t, hH⟩ := hH
    obtain ⟨pv, hH⟩ := hH
    obtain ⟨fv, hH⟩ := hH
    obtain ⟨lp, hH⟩ := hH
    obtain ⟨t, hH⟩ := hH
    obtain ⟨tl, hH⟩ := hH
    obtain ⟨vr, hH⟩ := hH
    obtain ⟨vl, hH⟩ := hH
    obtain ⟨Kd, hH⟩ := hH
    obtain ⟨sf, hH⟩ := hH
    obtain ⟨nf, hH⟩ := hH
    obtain ⟨Tk, hH⟩ := hH
    obtain ⟨ncd, hH⟩ := hH
    obtain ⟨Ld, hH⟩ := hH
    obtain ⟨cfd, hH⟩ := hH
    obtain ⟨pfd, hH⟩ := hH
    obtain ⟨mf, hH⟩ := hH
    obtain ⟨flA, hH⟩ := hH
    obtain ⟨stA, hH⟩ := hH
    obtain ⟨sA, hH⟩ := hH
    obtain ⟨bA, hH⟩ := hH
    obtain ⟨rrA, hH⟩ := hH
    obtain ⟨recA, hH⟩ := hH
    obtain ⟨flB, hH⟩ := hH
    obtain ⟨stB, hH⟩ := hH
    obtain ⟨sB, hH⟩ := hH
    obtain ⟨bB, hH⟩ := hH
    obtain ⟨rrB, hH⟩ := hH
    obtain ⟨recB, hH⟩ := hH
    obtain ⟨ran, hH⟩ := hH
    obtain ⟨rr2, hH⟩ := hH
    obtain ⟨rr3, hH⟩ := hH
    obtain ⟨rr4, hH⟩ := hH
    obtain ⟨rt, hH⟩ := hH
    obtain ⟨rpa, hH⟩ := hH
    obtain ⟨lz, hH⟩ := hH
    obtain ⟨can, hH⟩ := hH
    obtain ⟨cts, hH⟩ := hH
    obtain ⟨td, hH⟩ := hH
    obtain ⟨lk, hH⟩ := hH
    obtain ⟨fc, hH⟩ := hH
    obtain ⟨FL, hH⟩ := hH
    obtain ⟨fcf, hH⟩ := hH
    obtain ⟨fpf, hH⟩ := hH
    obtain ⟨htz, hH⟩ := hH
    obtain ⟨hR, hH⟩ := hH
    obtain ⟨hTk, hH⟩ := hH
    obtain ⟨hgo, hH⟩ := hH
    obtain ⟨hmk, hH⟩ := hH
    obtain ⟨hM, hH⟩ := hH
    obtain ⟨hsA, hH⟩ := hH
    obtain ⟨hrA, hH⟩ := hH
    obtain ⟨hmA, hH⟩ := hH
    obtain ⟨hsB, hH⟩ := hH
    obtain ⟨hrB, hH⟩ := hH
    obtain ⟨hmB, hH⟩ := hH
    obtain ⟨hrt, hH⟩ := hH
    obtain ⟨hlz, hH⟩ := hH
    obtain ⟨rfl, rfl, rfl⟩ := hH
    obtain ⟨hc, hL6, hI5⟩ := id hgo
    have hL := gL6_8 hL6
    have hI := gG_up (b' := 7) hI5 (by decide)
    have hkb := gq_kN hmA hmB
    refine gq_goi (wc := [(h0, .inr (8, [.ref a, .int (nI tz), .ref r0, .int fp, .int ld, .ref p0, .ref m0, .null, .ref oA, .ref oB, .ref ra, .ref cu])), (m0, .inr (3, [.ref ms, .int vst, .int (nI vk), .int vm, .ref md])), (ms, .inr (7, [.ref mw])), (mw, .inl (cI, 34, .inl mf))]) (wr := [(a, .inl (cB, 4000, .inl f)), (r0, .inr (6, [.ref d0, .int pv, .int fv, .int lp, .ref k4, .ref k5, .ref k6, .ref k7, .int (nI t), .int tl, .int vr, .int vl])), (k4, .inl (cI, 501, .inl (fun j => nI (Kd j)))), (k5, .inl (cI, 501, .inl sf)), (k6, .inl (cI, 501, .inl nf)), (k7, .inl (cI, 6, .inl (fun j => nI (Tk j)))), (p0, .inr (4, [.int (nI nc), .ref b1, .ref b2, .ref b3])), (b1, .inl (cI, 3, .inl (fun j => nI (L j)))), (b2, .inl (cI, 4, .inl cf)), (b3, .inl (cI, 192, .inl pf)), (d0, .inr (4, [.int (nI ncd), .ref e1, .ref e2, .ref e3])), (e1, .inl (cI, 3, .inl (fun j => nI (Ld j)))), (e2, .inl (cI, 4, .inl cfd)), (e3, .inl (cI, 192, .inl pfd)), (md, .inl (cI, 38, .inl vd)), (oA, .inr (2, [.int 0, .int flA, .int (nI stA), .int (nI sA), .ref bA])), (bA, .inl (cI, rrA, .inl recA)), (oB, .inr (2, [.int 0, .int flB, .int (nI stB), .int (nI sB), .ref bB])), (bB, .inl (cI, rrB, .inl recB)), (ra, .inr (5, [.int 0, .int ran, .int rr2, .int rr3, .int rr4, .int (nI rt), .ref a6])), (a6, .inl (cI, 38, .inl rpa)), (cu, .inr (0, [.ref f0, .int (nI lz), .int can, .ref a3l, .int cts, .ref a5t])), (a3l, .inl (cI, 2, .inl lk)), (a5t, .inl (cI, 2, .inl td)), (f0, .inr (4, [.int fc, .ref g1, .ref g2, .ref g3])), (g1, .inl (cI, 3, .inl (fun j => nI (FL j)))), (g2, .inl (cI, 4, .inl fcf)), (g3, .inl (cI, 192, .inl fpf))]) (va_runV (As := [.int z1]) (rest := []) ⟨hx, hb, hml, hown, hts⟩ (x_memory8 l D cI cB cZ h0 (.ref a) (.int (nI tz)) (.ref r0) (.int fp) (.int ld) (.ref p0) (.null) (.ref oA) (.ref oB) (.ref ra) (.ref cu) m0 ms mw vst (.int (nI vk)) (.int vm) (.ref md) mf z1 _) (cwV 1 hts gP_law__x_memory8 rfl rfl rfl (by decide +kernel) ⟨Nat.le_of_ble_eq_true rfl, Nat.le_of_ble_eq_true rfl⟩) (gx_preV (ci := 8) (q0 := 0) hK gN.nil (gq_Pl hP) (gq_Dl hD) [0, 15, 16, 17] rfl rfl rfl rfl) rfl rfl hl.1 rfl (lv_room (Nat.le_of_ble_eq_true rfl)) dL_law_385 ⟨(Nat.le_trans (Nat.add_le_add_right hkb.1 _) (Nat.le_of_ble_eq_true rfl)), (Nat.le_trans (Nat.add_le_add_right hkb.2 _) (Nat.le_of_ble_eq_true rfl))⟩) hP hD hS hA [0, 15, 16, 17] [1, 2, 3, 4, 5, 6, 7, 8, 9, 10, 11, 12, 13, 14, 18, 19, 20, 21, 22, 23, 24, 25, 26, 27, 28, 29, 30, 31] rfl rfl rfl (by decide) (fun r1 w1 H locs hp hP hD hS => ?_)
    obtain ⟨e_1, hp⟩ := hp
    obtain ⟨hx385_0, hp⟩ := hp
    obtain ⟨h9, hp⟩ := hp
    subst hp
    have h9 := h9.symm
    subst h9
    have hx385_0 : rQ (fun a b c => ¬ vst = 0 ∧ a < 4 ∧ b = 0 ∧ c = 0) (fun a _ _ => mf (9 + a)) 0 z1 (nI 0) (nI 0) e_1 := hx385_0
    have hP : va_P D vwCl ([(a, .inl (cB, 4000, .inl f)), (r0, .inr (6, [.ref d0, .int pv, .int fv, .int lp, .ref k4, .ref k5, .ref k6, .ref k7, .int (nI t), .int tl, .int vr, .int vl])), (k4, .inl (cI, 501, .inl (fun j => nI (Kd j)))), (k5, .inl (cI, 501, .inl sf)), (k6, .inl (cI, 501, .inl nf)), (k7, .inl (cI, 6, .inl (fun j => nI (Tk j)))), (p0, .inr (4, [.int (nI nc), .ref b1, .ref b2, .ref b3])), (b1, .inl (cI, 3, .inl (fun j => nI (L j)))), (b2, .inl (cI, 4, .inl cf)), (b3, .inl (cI, 192, .inl pf)), (d0, .inr (4, [.int (nI ncd), .ref e1, .ref e2, .ref e3])), (e1, .inl (cI, 3, .inl (fun j => nI (Ld j)))), (e2, .inl (cI, 4, .inl cfd)), (e3, .inl (cI, 192, .inl pfd)), (md, .inl (cI, 38, .inl vd)), (oA, .inr (2, [.int 0, .int flA, .int (nI stA), .int (nI sA), .ref bA])), (bA, .inl (cI, rrA, .inl recA)), (oB, .inr (2, [.int 0, .int flB, .int (nI stB), .int (nI sB), .ref bB])), (bB, .inl (cI, rrB, .inl recB)), (ra, .inr (5, [.int 0, .int ran, .int rr2, .int rr3, .int rr4, .int (nI rt), .ref a6])), (a6, .inl (cI, 38, .inl rpa)), (cu, .inr (0, [.ref f0, .int (nI lz), .int can, .ref a3l, .int cts, .ref a5t])), (a3l, .inl (cI, 2, .inl lk)), (a5t, .inl (cI, 2, .inl td)), (f0, .inr (4, [.int fc, .ref g1, .ref g2, .ref g3])), (g1, .inl (cI, 3, .inl (fun j => nI (FL j)))), (g2, .inl (cI, 4, .inl fcf)), (g3, .inl (cI, 192, .inl fpf)), (h0, .inr (8, [.ref a, .int (nI tz), .ref r0, .int fp, .int ld, .ref p0, .ref m0, .null, .ref oA, .ref oB, .ref ra, .ref cu])), (m0, .inr (3, [.ref ms, .int vst, .int (nI vk), .int vm, .ref md])), (ms, .inr (7, [.ref mw])), (mw, .inl (cI, 34, .inl mf))] ++ w9) H := hP
    have hD : va_D A ([(a, .inl (cB, 4000, .inl f)), (r0, .inr (6, [.ref d0, .int pv, .int fv, .int lp, .ref k4, .ref k5, .ref k6, .ref k7, .int (nI t), .int tl, .int vr, .int vl])), (k4, .inl (cI, 501, .inl (fun j => nI (Kd j)))), (k5, .inl (cI, 501, .inl sf)), (k6, .inl (cI, 501, .inl nf)), (k7, .inl (cI, 6, .inl (fun j => nI (Tk j)))), (p0, .inr (4, [.int (nI nc), .ref b1, .ref b2, .ref b3])), (b1, .inl (cI, 3, .inl (fun j => nI (L j)))), (b2, .inl (cI, 4, .inl cf)), (b3, .inl (cI, 192, .inl pf)), (d0, .inr (4, [.int (nI ncd), .ref e1, .ref e2, .ref e3])), (e1, .inl (cI, 3, .inl (fun j => nI (Ld j)))), (e2, .inl (cI, 4, .inl cfd)), (e3, .inl (cI, 192, .inl pfd)), (md, .inl (cI, 38, .inl vd)), (oA, .inr (2, [.int 0, .int flA, .int (nI stA), .int (nI sA), .ref bA])), (bA, .inl (cI, rrA, .inl recA)), (oB, .inr (2, [.int 0, .int flB, .int (nI stB), .int (nI sB), .ref bB])), (bB, .inl (cI, rrB, .inl recB)), (ra, .inr (5, [.int 0, .int ran, .int rr2, .int rr3, .int rr4, .int (nI rt), .ref a6])), (a6, .inl (cI, 38, .inl rpa)), (cu, .inr (0, [.ref f0, .int (nI lz), .int can, .ref a3l, .int cts, .ref a5t])), (a3l, .inl (cI, 2, .inl lk)), (a5t, .inl (cI, 2, .inl td)), (f0, .inr (4, [.int fc, .ref g1, .ref g2, .ref g3])), (g1, .inl (cI, 3, .inl (fun j => nI (FL j)))), (g2, .inl (cI, 4, .inl fcf)), (g3, .inl (cI, 192, .inl fpf)), (h0, .inr (8, [.ref a, .int (nI tz), .ref r0, .int fp, .int ld, .ref p0, .ref m0, .null, .ref oA, .ref oB, .ref ra, .ref cu])), (m0, .inr (3, [.ref ms, .int vst, .int (nI vk), .int vm, .ref md])), (ms, .inr (7, [.ref mw])), (mw, .inl (cI, 34, .inl mf))] ++ w9) := hD
    refine W.widen (k := 63 + (rrA / 17) + (rrB / 17)) (n := 584682 + (2 * rrA + 51000 * (rrA / 51000)) + (2 * rrB + 51000 * (rrB / 51000))) (Nat.le_refl _) (Nat.le_refl _) ?_
    have hP := gq_subP (X' := [(h0, .inr (8, [.ref a, .int (nI tz), .ref r0, .int fp, .int ld, .ref p0, .ref m0, .null, .ref oA, .ref oB, .ref ra, .ref cu])), (a, .inl (cB, 4000, .inl f)), (r0, .inr (6, [.ref d0, .int pv, .int fv, .int lp, .ref k4, .ref k5, .ref k6, .ref k7, .int (nI t), .int tl, .int vr, .int vl])), (k4, .inl (cI, 501, .inl (fun j => nI (Kd j)))), (k5, .inl (cI, 501, .inl sf)), (k6, .inl (cI, 501, .inl nf)), (k7, .inl (cI, 6, .inl (fun j => nI (Tk j)))), (p0, .inr (4, [.int (nI nc), .ref b1, .ref b2, .ref b3])), (b1, .inl (cI, 3, .inl (fun j => nI (L j)))), (b2, .inl (cI, 4, .inl cf)), (b3, .inl (cI, 192, .inl pf)), (d0, .inr (4, [.int (nI ncd), .ref e1, .ref e2, .ref e3])), (e1, .inl (cI, 3, .inl (fun j => nI (Ld j)))), (e2, .inl (cI, 4, .inl cfd)), (e3, .inl (cI, 192, .inl pfd)), (m0, .inr (3, [.ref ms, .int vst, .int (nI vk), .int vm, .ref md])), (ms, .inr (7, [.ref mw])), (mw, .inl (cI, 34, .inl mf)), (md, .inl (cI, 38, .inl vd)), (oA, .inr (2, [.int 0, .int flA, .int (nI stA), .int (nI sA), .ref bA])), (bA, .inl (cI, rrA, .inl recA)), (oB, .inr (2, [.int 0, .int flB, .int (nI stB), .int (nI sB), .ref bB])), (bB, .inl (cI, rrB, .inl recB)), (ra, .inr (5, [.int 0, .int ran, .int rr2, .int rr3, .int rr4, .int (nI rt), .ref a6])), (a6, .inl (cI, 38, .inl rpa)), (cu, .inr (0, [.ref f0, .int (nI lz), .int can, .ref a3l, .int cts, .ref a5t])), (a3l, .inl (cI, 2, .inl lk)), (a5t, .inl (cI, 2, .inl td)), (f0, .inr (4, [.int fc, .ref g1, .ref g2, .ref g3])), (g1, .inl (cI, 3, .inl (fun j => nI (FL j)))), (g2, .inl (cI, 4, .inl fcf)), (g3, .inl (cI, 192, .inl fpf))]) hP [28, 0, 1, 2, 3, 4, 5, 6, 7, 8, 9, 10, 11, 12, 13, 29, 30, 31, 14, 15, 16, 17, 18, 19, 20, 21, 22, 23, 24, 25, 26, 27] rfl
    have hD := gq_subD (X' := [(h0, .inr (8, [.ref a, .int (nI tz), .ref r0, .int fp, .int ld, .ref p0, .ref m0, .null, .ref oA, .ref oB, .ref ra, .ref cu])), (a, .inl (cB, 4000, .inl f)), (r0, .inr (6, [.ref d0, .int pv, .int fv, .int lp, .ref k4, .ref k5, .ref k6, .ref k7, .int (nI t), .int tl, .int vr, .int vl])), (k4, .inl (cI, 501, .inl (fun j => nI (Kd j)))), (k5, .inl (cI, 501, .inl sf)), (k6, .inl (cI, 501, .inl nf)), (k7, .inl (cI, 6, .inl (fun j => nI (Tk j)))), (p0, .inr (4, [.int (nI nc), .ref b1, .ref b2, .ref b3])), (b1, .inl (cI, 3, .inl (fun j => nI (L j)))), (b2, .inl (cI, 4, .inl cf)), (b3, .inl (cI, 192, .inl pf)), (d0, .inr (4, [.int (nI ncd), .ref e1, .ref e2, .ref e3])), (e1, .inl (cI, 3, .inl (fun j => nI (Ld j)))), (e2, .inl (cI, 4, .inl cfd)), (e3, .inl (cI, 192, .inl pfd)), (m0, .inr (3, [.ref ms, .int vst, .int (nI vk), .int vm, .ref md])), (ms, .inr (7, [.ref mw])), (mw, .inl (cI, 34, .inl mf)), (md, .inl (cI, 38, .inl vd)), (oA, .inr (2, [.int 0, .int flA, .int (nI stA), .int (nI sA), .ref bA])), (bA, .inl (cI, rrA, .inl recA)), (oB, .inr (2, [.int 0, .int flB, .int (nI stB), .int (nI sB), .ref bB])), (bB, .inl (cI, rrB, .inl recB)), (ra, .inr (5, [.int 0, .int ran, .int rr2, .int rr3, .int rr4, .int (nI rt), .ref a6])), (a6, .inl (cI, 38, .inl rpa)), (cu, .inr (0, [.ref f0, .int (nI lz), .int can, .ref a3l, .int cts, .ref a5t])), (a3l, .inl (cI, 2, .inl lk)), (a5t, .inl (cI, 2, .inl td)), (f0, .inr (4, [.int fc, .ref g1, .ref g2, .ref g3])), (g1, .inl (cI, 3, .inl (fun j => nI (FL j)))), (g2, .inl (cI, 4, .inl fcf)), (g3, .inl (cI, 192, .inl fpf))]) hD [28, 0, 1, 2, 3, 4, 5, 6, 7, 8, 9, 10, 11, 12, 13, 29, 30, 31, 14, 15, 16, 17, 18, 19, 20, 21, 22, 23, 24, 25, 26, 27] (by decide) rfl
    exact kk e_1 _ tz f fp ld nc L cf pf vst vk vm vd _ _ H locs (Or.inl (HallN_mk cI cB cZ h0 tz f fp ld nc L cf pf vst vk vm vd a r0 k4 k5 k6 k7 p0 b1 b2 b3 d0 e1 e2 e3 m0 ms mw md oA oB ra a6 cu f0 g1 g2 g3 a3l a5t pv fv lp t tl vr vl Kd sf nf Tk ncd Ld cfd pfd mf flA stA sA bA rrA recA flB stB sB bB rrB recB ran rr2 rr3 rr4 rt rpa lz can cts td lk fc FL fcf fpf htz hR hTk hgo hmk hM hsA hrA hmA hsB hrB hmB hrt hlz)) ⟨rq_m (ok := fun g a b c => ¬ vst = 0 ∧ a < 4 ∧ b = 0 ∧ c = 0) (val := fun g a _ _ => g (9 + a)) hM (fun _ _ _ _ h => h.1) hx385_0, rfl, rfl, rfl, rfl, rfl, rfl, rfl, rfl, rfl, rfl, rfl, rfl⟩ hP hD hS
  · unfold HallE at hH
    obtain ⟨a, hH⟩ := hH
    obtain ⟨r0, hH⟩ := hH
    obtain ⟨k4, hH⟩ := hH
    obtain ⟨k5, hH⟩ := hH
    obtain ⟨k6, hH⟩ := hH
    obtain ⟨k7, hH⟩ := hH
    obtain ⟨p0, hH⟩ := hH
    obtain ⟨b1, hH⟩ := hH
    obtain ⟨b2, hH⟩ := hH
    obtain ⟨b3, hH⟩ := hH
    obtain ⟨d0, hH⟩ := hH
    obtain ⟨e1, hH⟩ := hH
    obtain ⟨e2, hH⟩ := hH
    obtain ⟨e3, hH⟩ := hH
    obtain ⟨m0, hH⟩ := hH
    obtain ⟨ms, hH⟩ := hH
    obtain ⟨mw, hH⟩ := hH
    obtain ⟨md, hH⟩ := hH
    obtain ⟨oA, hH⟩ := hH
    obtain ⟨oB, hH⟩ := hH
    obtain ⟨ra, hH⟩ := hH
    obtain ⟨a6, hH⟩ := hH
    obtain ⟨cu, hH⟩ := hH
    obtain ⟨f0, hH⟩ := hH
    obtain ⟨g1, hH⟩ := hH
    obtain ⟨g2, hH⟩ := hH
    obtain ⟨g3, hH⟩ := hH
    obtain ⟨a3l, hH⟩ := hH
    obtain ⟨a5t, hH⟩ := hH
    obtain ⟨pv, hH⟩ := hH
    obtain ⟨fv, hH⟩ := hH
    obtain ⟨lp, hH⟩ := hH
    obtain ⟨t, hH⟩ := hH
    obtain ⟨tl, hH⟩ := hH
    obtain ⟨vr, hH⟩ := hH
    obtain ⟨vl, hH⟩ := hH
    obtain ⟨Kd, hH⟩ := hH
    obtain ⟨sf, hH⟩ := hH
    obtain ⟨nf, hH⟩ := hH
    obtain ⟨Tk, hH⟩ := hH
    obtain ⟨ncd, hH⟩ := hH
    obtain ⟨Ld, hH⟩ := hH
    obtain ⟨cfd, hH⟩ := hH
    obtain ⟨pfd, hH⟩ := hH
    obtain ⟨mf, hH⟩ := hH
    obtain ⟨knA, hH⟩ := hH
    obtain ⟨flA, hH⟩ := hH
    obtain ⟨stA, hH⟩ := hH
    obtain ⟨sA, hH⟩ := hH
    obtain ⟨bA, hH⟩ := hH
    obtain ⟨rrA, hH⟩ := hH
    obtain ⟨recA, hH⟩ := hH
    obtain ⟨knB, hH⟩ := hH
    obtain ⟨flB, hH⟩ := hH
    obtain ⟨stB, hH⟩ := hH
    obtain ⟨sB, hH⟩ := hH
    obtain ⟨bB, hH⟩ := hH
    obtain ⟨rrB, hH⟩ := hH
    obtain ⟨recB, hH⟩ := hH
    obtain ⟨rkn, hH⟩ := hH
    obtain ⟨ran, hH⟩ := hH
    obtain ⟨rr2, hH⟩ := hH
    obtain ⟨rr3, hH⟩ := hH
    obtain ⟨rr4, hH⟩ := hH
    obtain ⟨rt, hH⟩ := hH
    obtain ⟨rpa, hH⟩ := hH
    obtain ⟨lz, hH⟩ := hH
    obtain ⟨can, hH⟩ := hH
    obtain ⟨cts, hH⟩ := hH
    obtain ⟨td, hH⟩ := hH
    obtain ⟨lk, hH⟩ := hH
    obtain ⟨fc, hH⟩ := hH
    obtain ⟨FL, hH⟩ := hH
    obtain ⟨fcf, hH⟩ := hH
    obtain ⟨fpf, hH⟩ := hH
    obtain ⟨x0, hH⟩ := hH
    obtain ⟨a2, hH⟩ := hH
    obtain ⟨s4, hH⟩ := hH
    obtain ⟨w4, hH⟩ := hH
    obtain ⟨s5, hH⟩ := hH
    obtain ⟨w5, hH⟩ := hH
    obtain ⟨a8, hH⟩ := hH
    obtain ⟨a9, hH⟩ := hH
    obtain ⟨a3, hH⟩ := hH
    obtain ⟨i0, hH⟩ := hH
    obtain ⟨i1, hH⟩ := hH
    obtain ⟨i6, hH⟩ := hH
    obtain ⟨a7, hH⟩ := hH
    obtain ⟨rl, hH⟩ := hH
    obtain ⟨rf, hH⟩ := hH
    obtain ⟨f4, hH⟩ := hH
    obtain ⟨f5, hH⟩ := hH
    obtain ⟨ef, hH⟩ := hH
    obtain ⟨sl, hH⟩ := hH
    obtain ⟨cm, hH⟩ := hH
    obtain ⟨pp, hH⟩ := hH
    obtain ⟨htz, hH⟩ := hH
    obtain ⟨hR, hH⟩ := hH
    obtain ⟨hTk, hH⟩ := hH
    obtain ⟨hgo, hH⟩ := hH
    obtain ⟨hmk, hH⟩ := hH
    obtain ⟨hM, hH⟩ := hH
    obtain ⟨hsA, hH⟩ := hH
    obtain ⟨hrA, hH⟩ := hH
    obtain ⟨hmA, hH⟩ := hH
    obtain ⟨hsB, hH⟩ := hH
    obtain ⟨hrB, hH⟩ := hH
    obtain ⟨hmB, hH⟩ := hH
    obtain ⟨hrt, hH⟩ := hH
    obtain ⟨hlz, hH⟩ := hH
    obtain ⟨hrl, hH⟩ := hH
    obtain ⟨hrm, hH⟩ := hH
    obtain ⟨rfl, rfl, rfl⟩ := hH
    obtain ⟨hc, hL6, hI5⟩ := id hgo
    have hL := gL6_8 hL6
    have hI := gG_up (b' := 7) hI5 (by decide)
    have hkb := gq_k hmA hmB hrm.2
    refine gq_goi (wc := [(h0, .inr (8, [.ref a, .int (nI tz), .ref r0, .int fp, .int ld, .ref p0, .ref m0, .ref x0, .ref oA, .ref oB, .ref ra, .ref cu])), (m0, .inr (3, [.ref ms, .int vst, .int (nI vk), .int vm, .ref md])), (ms, .inr (7, [.ref mw])), (mw, .inl (cI, 34, .inl mf))]) (wr := [(a, .inl (cB, 4000, .inl f)), (r0, .inr (6, [.ref d0, .int pv, .int fv, .int lp, .ref k4, .ref k5, .ref k6, .ref k7, .int (nI t), .int tl, .int vr, .int vl])), (k4, .inl (cI, 501, .inl (fun j => nI (Kd j)))), (k5, .inl (cI, 501, .inl sf)), (k6, .inl (cI, 501, .inl nf)), (k7, .inl (cI, 6, .inl (fun j => nI (Tk j)))), (p0, .inr (4, [.int (nI nc), .ref b1, .ref b2, .ref b3])), (b1, .inl (cI, 3, .inl (fun j => nI (L j)))), (b2, .inl (cI, 4, .inl cf)), (b3, .inl (cI, 192, .inl pf)), (d0, .inr (4, [.int (nI ncd), .ref e1, .ref e2, .ref e3])), (e1, .inl (cI, 3, .inl (fun j => nI (Ld j)))), (e2, .inl (cI, 4, .inl cfd)), (e3, .inl (cI, 192, .inl pfd)), (md, .inl (cI, 38, .inl vd)), (oA, .inr (2, [.int knA, .int flA, .int (nI stA), .int (nI sA), .ref bA])), (bA, .inl (cI, rrA, .inl recA)), (oB, .inr (2, [.int knB, .int flB, .int (nI stB), .int (nI sB), .ref bB])), (bB, .inl (cI, rrB, .inl recB)), (ra, .inr (5, [.int rkn, .int ran, .int rr2, .int rr3, .int rr4, .int (nI rt), .ref a6])), (a6, .inl (cI, 38, .inl rpa)), (cu, .inr (0, [.ref f0, .int (nI lz), .int can, .ref a3l, .int cts, .ref a5t])), (a3l, .inl (cI, 2, .inl lk)), (a5t, .inl (cI, 2, .inl td)), (f0, .inr (4, [.int fc, .ref g1, .ref g2, .ref g3])), (g1, .inl (cI, 3, .inl (fun j => nI (FL j)))), (g2, .inl (cI, 4, .inl fcf)), (g3, .inl (cI, 192, .inl fpf)), (x0, .inr (1, [.int i0, .int i1, .ref a2, .ref a3, .ref s4, .ref s5, .int i6, .ref a7, .ref a8, .ref a9])), (s4, .inr (7, [.ref w4])), (w4, .inl (cI, 34, .inl f4)), (s5, .inr (7, [.ref w5])), (w5, .inl (cI, 34, .inl f5)), (a2, .inl (cI, 3000, .inl ef)), (a7, .inl (cI, rl, .inl rf)), (a8, .inl (cI, 4096, .inl sl)), (a9, .inl (cI, 3000, .inl cm)), (a3, .inl (cI, 38, .inl pp))]) (va_runV (As := [.int z1]) (rest := []) ⟨hx, hb, hml, hown, hts⟩ (x_memory8 l D cI cB cZ h0 (.ref a) (.int (nI tz)) (.ref r0) (.int fp) (.int ld) (.ref p0) (.ref x0) (.ref oA) (.ref oB) (.ref ra) (.ref cu) m0 ms mw vst (.int (nI vk)) (.int vm) (.ref md) mf z1 _) (cwV 1 hts gP_law__x_memory8 rfl rfl rfl (by decide +kernel) ⟨Nat.le_of_ble_eq_true rfl, Nat.le_of_ble_eq_true rfl⟩) (gx_preV (ci := 8) (q0 := 0) hK gN.nil (gq_Pl hP) (gq_Dl hD) [0, 15, 16, 17] rfl rfl rfl rfl) rfl rfl hl.1 rfl (lv_room (Nat.le_of_ble_eq_true rfl)) dL_law_385 ⟨(Nat.le_trans (Nat.add_le_add_right hkb.1 _) (Nat.le_of_ble_eq_true rfl)), (Nat.le_trans (Nat.add_le_add_right hkb.2 _) (Nat.le_of_ble_eq_true rfl))⟩) hP hD hS hA [0, 15, 16, 17] [1, 2, 3, 4, 5, 6, 7, 8, 9, 10, 11, 12, 13, 14, 18, 19, 20, 21, 22, 23, 24, 25, 26, 27, 28, 29, 30, 31, 32, 33, 34, 35, 36, 37, 38, 39, 40, 41] rfl rfl rfl (by decide) (fun r1 w1 H locs hp hP hD hS => ?_)
    obtain ⟨e_1, hp⟩ := hp
    obtain ⟨hx385_0, hp⟩ := hp
    obtain ⟨h9, hp⟩ := hp
    subst hp
    have h9 := h9.symm
    subst h9
    have hx385_0 : rQ (fun a b c => ¬ vst = 0 ∧ a < 4 ∧ b = 0 ∧ c = 0) (fun a _ _ => mf (9 + a)) 0 z1 (nI 0) (nI 0) e_1 := hx385_0
    have hP : va_P D vwCl ([(a, .inl (cB, 4000, .inl f)), (r0, .inr (6, [.ref d0, .int pv, .int fv, .int lp, .ref k4, .ref k5, .ref k6, .ref k7, .int (nI t), .int tl, .int vr, .int vl])), (k4, .inl (cI, 501, .inl (fun j => nI (Kd j)))), (k5, .inl (cI, 501, .inl sf)), (k6, .inl (cI, 501, .inl nf)), (k7, .inl (cI, 6, .inl (fun j => nI (Tk j)))), (p0, .inr (4, [.int (nI nc), .ref b1, .ref b2, .ref b3])), (b1, .inl (cI, 3, .inl (fun j => nI (L j)))), (b2, .inl (cI, 4, .inl cf)), (b3, .inl (cI, 192, .inl pf)), (d0, .inr (4, [.int (nI ncd), .ref e1, .ref e2, .ref e3])), (e1, .inl (cI, 3, .inl (fun j => nI (Ld j)))), (e2, .inl (cI, 4, .inl cfd)), (e3, .inl (cI, 192, .inl pfd)), (md, .inl (cI, 38, .inl vd)), (oA, .inr (2, [.int knA, .int flA, .int (nI stA), .int (nI sA), .ref bA])), (bA, .inl (cI, rrA, .inl recA)), (oB, .inr (2, [.int knB, .int flB, .int (nI stB), .int (nI sB), .ref bB])), (bB, .inl (cI, rrB, .inl recB)), (ra, .inr (5, [.int rkn, .int ran, .int rr2, .int rr3, .int rr4, .int (nI rt), .ref a6])), (a6, .inl (cI, 38, .inl rpa)), (cu, .inr (0, [.ref f0, .int (nI lz), .int can, .ref a3l, .int cts, .ref a5t])), (a3l, .inl (cI, 2, .inl lk)), (a5t, .inl (cI, 2, .inl td)), (f0, .inr (4, [.int fc, .ref g1, .ref g2, .ref g3])), (g1, .inl (cI, 3, .inl (fun j => nI (FL j)))), (g2, .inl (cI, 4, .inl fcf)), (g3, .inl (cI, 192, .inl fpf)), (x0, .inr (1, [.int i0, .int i1, .ref a2, .ref a3, .ref s4, .ref s5, .int i6, .ref a7, .ref a8, .ref a9])), (s4, .inr (7, [.ref w4])), (w4, .inl (cI, 34, .inl f4)), (s5, .inr (7, [.ref w5])), (w5, .inl (cI, 34, .inl f5)), (a2, .inl (cI, 3000, .inl ef)), (a7, .inl (cI, rl, .inl rf)), (a8, .inl (cI, 4096, .inl sl)), (a9, .inl (cI, 3000, .inl cm)), (a3, .inl (cI, 38, .inl pp)), (h0, .inr (8, [.ref a, .int (nI tz), .ref r0, .int fp, .int ld, .ref p0, .ref m0, .ref x0, .ref oA, .ref oB, .ref ra, .ref cu])), (m0, .inr (3, [.ref ms, .int vst, .int (nI vk), .int vm, .ref md])), (ms, .inr (7, [.ref mw])), (mw, .inl (cI, 34, .inl mf))] ++ w9) H := hP
    have hD : va_D A ([(a, .inl (cB, 4000, .inl f)), (r0, .inr (6, [.ref d0, .int pv, .int fv, .int lp, .ref k4, .ref k5, .ref k6, .ref k7, .int (nI t), .int tl, .int vr, .int vl])), (k4, .inl (cI, 501, .inl (fun j => nI (Kd j)))), (k5, .inl (cI, 501, .inl sf)), (k6, .inl (cI, 501, .inl nf)), (k7, .inl (cI, 6, .inl (fun j => nI (Tk j)))), (p0, .inr (4, [.int (nI nc), .ref b1, .ref b2, .ref b3])), (b1, .inl (cI, 3, .inl (fun j => nI (L j)))), (b2, .inl (cI, 4, .inl cf)), (b3, .inl (cI, 192, .inl pf)), (d0, .inr (4, [.int (nI ncd), .ref e1, .ref e2, .ref e3])), (e1, .inl (cI, 3, .inl (fun j => nI (Ld j)))), (e2, .inl (cI, 4, .inl cfd)), (e3, .inl (cI, 192, .inl pfd)), (md, .inl (cI, 38, .inl vd)), (oA, .inr (2, [.int knA, .int flA, .int (nI stA), .int (nI sA), .ref bA])), (bA, .inl (cI, rrA, .inl recA)), (oB, .inr (2, [.int knB, .int flB, .int (nI stB), .int (nI sB), .ref bB])), (bB, .inl (cI, rrB, .inl recB)), (ra, .inr (5, [.int rkn, .int ran, .int rr2, .int rr3, .int rr4, .int (nI rt), .ref a6])), (a6, .inl (cI, 38, .inl rpa)), (cu, .inr (0, [.ref f0, .int (nI lz), .int can, .ref a3l, .int cts, .ref a5t])), (a3l, .inl (cI, 2, .inl lk)), (a5t, .inl (cI, 2, .inl td)), (f0, .inr (4, [.int fc, .ref g1, .ref g2, .ref g3])), (g1, .inl (cI, 3, .inl (fun j => nI (FL j)))), (g2, .inl (cI, 4, .inl fcf)), (g3, .inl (cI, 192, .inl fpf)), (x0, .inr (1, [.int i0, .int i1, .ref a2, .ref a3, .ref s4, .ref s5, .int i6, .ref a7, .ref a8, .ref a9])), (s4, .inr (7, [.ref w4])), (w4, .inl (cI, 34, .inl f4)), (s5, .inr (7, [.ref w5])), (w5, .inl (cI, 34, .inl f5)), (a2, .inl (cI, 3000, .inl ef)), (a7, .inl (cI, rl, .inl rf)), (a8, .inl (cI, 4096, .inl sl)), (a9, .inl (cI, 3000, .inl cm)), (a3, .inl (cI, 38, .inl pp)), (h0, .inr (8, [.ref a, .int (nI tz), .ref r0, .int fp, .int ld, .ref p0, .ref m0, .ref x0, .ref oA, .ref oB, .ref ra, .ref cu])), (m0, .inr (3, [.ref ms, .int vst, .int (nI vk), .int vm, .ref md])), (ms, .inr (7, [.ref mw])), (mw, .inl (cI, 34, .inl mf))] ++ w9) := hD
    refine W.widen (k := 63 + (rrA / 17) + (rrB / 17) + 10 + ((rl - 1600) / 4800)) (n := 584682 + (2 * rrA + 51000 * (rrA / 51000)) + (2 * rrB + 51000 * (rrB / 51000)) + 11814 + (2 * (rl - 1600))) (Nat.le_refl _) (Nat.le_refl _) ?_
    have hP := gq_subP (X' := [(h0, .inr (8, [.ref a, .int (nI tz), .ref r0, .int fp, .int ld, .ref p0, .ref m0, .ref x0, .ref oA, .ref oB, .ref ra, .ref cu])), (a, .inl (cB, 4000, .inl f)), (r0, .inr (6, [.ref d0, .int pv, .int fv, .int lp, .ref k4, .ref k5, .ref k6, .ref k7, .int (nI t), .int tl, .int vr, .int vl])), (k4, .inl (cI, 501, .inl (fun j => nI (Kd j)))), (k5, .inl (cI, 501, .inl sf)), (k6, .inl (cI, 501, .inl nf)), (k7, .inl (cI, 6, .inl (fun j => nI (Tk j)))), (p0, .inr (4, [.int (nI nc), .ref b1, .ref b2, .ref b3])), (b1, .inl (cI, 3, .inl (fun j => nI (L j)))), (b2, .inl (cI, 4, .inl cf)), (b3, .inl (cI, 192, .inl pf)), (d0, .inr (4, [.int (nI ncd), .ref e1, .ref e2, .ref e3])), (e1, .inl (cI, 3, .inl (fun j => nI (Ld j)))), (e2, .inl (cI, 4, .inl cfd)), (e3, .inl (cI, 192, .inl pfd)), (m0, .inr (3, [.ref ms, .int vst, .int (nI vk), .int vm, .ref md])), (ms, .inr (7, [.ref mw])), (mw, .inl (cI, 34, .inl mf)), (md, .inl (cI, 38, .inl vd)), (oA, .inr (2, [.int knA, .int flA, .int (nI stA), .int (nI sA), .ref bA])), (bA, .inl (cI, rrA, .inl recA)), (oB, .inr (2, [.int knB, .int flB, .int (nI stB), .int (nI sB), .ref bB])), (bB, .inl (cI, rrB, .inl recB)), (ra, .inr (5, [.int rkn, .int ran, .int rr2, .int rr3, .int rr4, .int (nI rt), .ref a6])), (a6, .inl (cI, 38, .inl rpa)), (cu, .inr (0, [.ref f0, .int (nI lz), .int can, .ref a3l, .int cts, .ref a5t])), (a3l, .inl (cI, 2, .inl lk)), (a5t, .inl (cI, 2, .inl td)), (f0, .inr (4, [.int fc, .ref g1, .ref g2, .ref g3])), (g1, .inl (cI, 3, .inl (fun j => nI (FL j)))), (g2, .inl (cI, 4, .inl fcf)), (g3, .inl (cI, 192, .inl fpf)), (x0, .inr (1, [.int i0, .int i1, .ref a2, .ref a3, .ref s4, .ref s5, .int i6, .ref a7, .ref a8, .ref a9])), (s4, .inr (7, [.ref w4])), (w4, .inl (cI, 34, .inl f4)), (s5, .inr (7, [.ref w5])), (w5, .inl (cI, 34, .inl f5)), (a2, .inl (cI, 3000, .inl ef)), (a7, .inl (cI, rl, .inl rf)), (a8, .inl (cI, 4096, .inl sl)), (a9, .inl (cI, 3000, .inl cm)), (a3, .inl (cI, 38, .inl pp))]) hP [38, 0, 1, 2, 3, 4, 5, 6, 7, 8, 9, 10, 11, 12, 13, 39, 40, 41, 14, 15, 16, 17, 18, 19, 20, 21, 22, 23, 24, 25, 26, 27, 28, 29, 30, 31, 32, 33, 34, 35, 36, 37] rfl
    have hD := gq_subD (X' := [(h0, .inr (8, [.ref a, .int (nI tz), .ref r0, .int fp, .int ld, .ref p0, .ref m0, .ref x0, .ref oA, .ref oB, .ref ra, .ref cu])), (a, .inl (cB, 4000, .inl f)), (r0, .inr (6, [.ref d0, .int pv, .int fv, .int lp, .ref k4, .ref k5, .ref k6, .ref k7, .int (nI t), .int tl, .int vr, .int vl])), (k4, .inl (cI, 501, .inl (fun j => nI (Kd j)))), (k5, .inl (cI, 501, .inl sf)), (k6, .inl (cI, 501, .inl nf)), (k7, .inl (cI, 6, .inl (fun j => nI (Tk j)))), (p0, .inr (4, [.int (nI nc), .ref b1, .ref b2, .ref b3])), (b1, .inl (cI, 3, .inl (fun j => nI (L j)))), (b2, .inl (cI, 4, .inl cf)), (b3, .inl (cI, 192, .inl pf)), (d0, .inr (4, [.int (nI ncd), .ref e1, .ref e2, .ref e3])), (e1, .inl (cI, 3, .inl (fun j => nI (Ld j)))), (e2, .inl (cI, 4, .inl cfd)), (e3, .inl (cI, 192, .inl pfd)), (m0, .inr (3, [.ref ms, .int vst, .int (nI vk), .int vm, .ref md])), (ms, .inr (7, [.ref mw])), (mw, .inl (cI, 34, .inl mf)), (md, .inl (cI, 38, .inl vd)), (oA, .inr (2, [.int knA, .int flA, .int (nI stA), .int (nI sA), .ref bA])), (bA, .inl (cI, rrA, .inl recA)), (oB, .inr (2, [.int knB, .int flB, .int (nI stB), .int (nI sB), .ref bB])), (bB, .inl (cI, rrB, .inl recB)), (ra, .inr (5, [.int rkn, .int ran, .int rr2, .int rr3, .int rr4, .int (nI rt), .ref a6])), (a6, .inl (cI, 38, .inl rpa)), (cu, .inr (0, [.ref f0, .int (nI lz), .int can, .ref a3l, .int cts, .ref a5t])), (a3l, .inl (cI, 2, .inl lk)), (a5t, .inl (cI, 2, .inl td)), (f0, .inr (4, [.int fc, .ref g1, .ref g2, .ref g3])), (g1, .inl (cI, 3, .inl (fun j => nI (FL j)))), (g2, .inl (cI, 4, .inl fcf)), (g3, .inl (cI, 192, .inl fpf)), (x0, .inr (1, [.int i0, .int i1, .ref a2, .ref a3, .ref s4, .ref s5, .int i6, .ref a7, .ref a8, .ref a9])), (s4, .inr (7, [.ref w4])), (w4, .inl (cI, 34, .inl f4)), (s5, .inr (7, [.ref w5])), (w5, .inl (cI, 34, .inl f5)), (a2, .inl (cI, 3000, .inl ef)), (a7, .inl (cI, rl, .inl rf)), (a8, .inl (cI, 4096, .inl sl)), (a9, .inl (cI, 3000, .inl cm)), (a3, .inl (cI, 38, .inl pp))]) hD [38, 0, 1, 2, 3, 4, 5, 6, 7, 8, 9, 10, 11, 12, 13, 39, 40, 41, 14, 15, 16, 17, 18, 19, 20, 21, 22, 23, 24, 25, 26, 27, 28, 29, 30, 31, 32, 33, 34, 35, 36, 37] (by decide) rfl
    exact kk e_1 _ tz f fp ld nc L cf pf vst vk vm vd _ _ H locs (Or.inr (HallE_mk cI cB cZ h0 tz f fp ld nc L cf pf vst vk vm vd a r0 k4 k5 k6 k7 p0 b1 b2 b3 d0 e1 e2 e3 m0 ms mw md oA oB ra a6 cu f0 g1 g2 g3 a3l a5t pv fv lp t tl vr vl Kd sf nf Tk ncd Ld cfd pfd mf knA flA stA sA bA rrA recA knB flB stB sB bB rrB recB rkn ran rr2 rr3 rr4 rt rpa lz can cts td lk fc FL fcf fpf x0 a2 s4 w4 s5 w5 a8 a9 a3 i0 i1 i6 a7 rl rf f4 f5 ef sl cm pp htz hR hTk hgo hmk hM hsA hrA hmA hsB hrB hmB hrt hlz hrl hrm)) ⟨rq_m (ok := fun g a b c => ¬ vst = 0 ∧ a < 4 ∧ b = 0 ∧ c = 0) (val := fun g a _ _ => g (9 + a)) hM (fun _ _ _ _ h => h.1) hx385_0, rfl, rfl, rfl, rfl, rfl, rfl, rfl, rfl, rfl, rfl, rfl, rfl⟩ hP hD hS
set_option maxHeartbeats 4000000 in
set_option maxRecDepth 100000 in
theorem hl_next {p : Program} {l : Launch} {e : Env} {s : State} {m : MethodId} {below : List Frame} {meth : Method} {c : Code} {b : Nat} {A : Nat → Prop} {Q : State → Prop} {D : va_G} {cI cB cZ : ClassId} {K : gKS} (G : gL p s m c b A D cI cB cZ K) {H : Heap} {locs : List Loc} {ls : Array Slot} {w8 w9 : va_W} {h0 tz kc ns : Nat} {f : Nat → Int32} {fp ld : Int32} {nc : Nat} {L : Nat → Nat} {cf : Nat → Int32} {pf : Nat → Int32} {vst : Int32} {vk : Nat} {vm : Int32} {vd : Nat → Int32} (hH : HallI cI cB cZ h0 w8 tz f fp ld nc L cf pf vst vk vm vd kc ns) (hP : va_P D vwCl (w8 ++ w9) H) (hD : va_D A (w8 ++ w9)) (hS : va_S A s.heap H locs) (hl : ls.size = 4 ∧ True) (z1 : Int32) (kk : ∀ (r : Int32) (w8' : va_W) (tz9 : Nat) (f9 : Nat → Int32) (fp9 ld9 : Int32) (nc9 : Nat) (L9 : Nat → Nat) (cf9 : Nat → Int32) (pf9 : Nat → Int32) (vst9 : Int32) (vk9 : Nat) (vm9 : Int32) (vd9 : Nat → Int32) (kc9 ns9 : Nat) (H1 : Heap) (locs1 : List Loc), HallI cI cB cZ h0 w8' tz9 f9 fp9 ld9 nc9 L9 cf9 pf9 vst9 vk9 vm9 vd9 kc9 ns9 → (rQ (fun a b c => ¬ vst = 0 ∧ ¬ ld = 0 ∧ a < nc ∧ b = 0 ∧ c = 0) (fun a _ _ => nI (gNx ((gRun pf cf vm vd vk) (13 + a)))) (-1) z1 (nI 0) (nI 0) r ∧ tz = tz9 ∧ f = f9 ∧ fp = fp9 ∧ ld = ld9 ∧ nc = nc9 ∧ L = L9 ∧ cf = cf9 ∧ pf = pf9 ∧ vst = vst9 ∧ vk = vk9 ∧ vm = vm9 ∧ vd = vd9) → va_P D vwCl (w8' ++ w9) H1 → va_D A (w8' ++ w9) → va_S A s.heap H1 locs1 → W p l e room_1 s m #[Value.ref b] below meth c H1 locs1 kc9 ns9 Q (F0 m 411 ls [.int r])) : W p l e room_1 s m #[Value.ref b] below meth c H locs kc ns Q (F0 m 408 ls [.int z1, .ref h0]) := by
  obtain ⟨hx, hb, hml, hown, hts, hA, hK, hN, hE⟩ := G
  rcases hH with hH | hH
  · unfold HallN at hH
    obtain ⟨a, hH⟩ := hH
    obtain ⟨r0, hH⟩ := hH
    obtain ⟨k4, hH⟩ := hH
    obtain ⟨k5, hH⟩ := hH
    obtain ⟨k6, hH⟩ := hH
    obtain ⟨k7, hH⟩ := hH
    obtain ⟨p0, hH⟩ := hH
    obtain ⟨b1, hH⟩ := hH
    obtain ⟨b2, hH⟩ := hH
    obtain ⟨b3, hH⟩ := hH
    obtain ⟨d0, hH⟩ := hH
    obtain ⟨e1, hH⟩ := hH
    obtain ⟨e2, hH⟩ := hH
    obtain ⟨e3, hH⟩ := hH
    obtain ⟨m0, hH⟩ := hH
    obtain ⟨ms, hH⟩ := hH
    obtain ⟨mw, hH⟩ := hH
    obtain ⟨md, hH⟩ := hH
    obtain ⟨oA, hH⟩ := hH
    obtain ⟨oB, hH⟩ := hH
    obtain ⟨ra, hH⟩ := hH
    obtain ⟨a6, hH⟩ := hH
    obtain ⟨cu, hH⟩ := hH
    obtain ⟨f0, hH⟩ := hH
    obtain ⟨g1, hH⟩ := hH
    obtain ⟨g2, hH⟩ := hH
    obtain ⟨g3, hH⟩ := hH
    obtain ⟨a3l, hH⟩ := hH
    obtain ⟨a5t, hH⟩ := hH
    obtain ⟨pv, hH⟩ := hH
    obtain ⟨fv, hH⟩ := hH
    obtain ⟨lp, hH⟩ := hH
    obtain ⟨t, hH⟩ := hH
    obtain ⟨tl, hH⟩ := hH
    obtain ⟨vr, hH⟩ := hH
    obtain ⟨vl, hH⟩ := hH
    obtain ⟨Kd, hH⟩ := hH
    obtain ⟨sf, hH⟩ := hH
    obtain ⟨nf, hH⟩ := hH
    obtain ⟨Tk, hH⟩ := hH
    obtain ⟨ncd, hH⟩ := hH
    obtain ⟨Ld, hH⟩ := hH
    obtain ⟨cfd, hH⟩ := hH
    obtain ⟨pfd, hH⟩ := hH
    obtain ⟨mf, hH⟩ := hH
    obtain ⟨flA, hH⟩ := hH
    obtain ⟨stA, hH⟩ := hH
    obtain ⟨sA, hH⟩ := hH
    obtain ⟨bA, hH⟩ := hH
    obtain ⟨rrA, hH⟩ := hH
    obtain ⟨recA, hH⟩ := hH
    obtain ⟨flB, hH⟩ := hH
    obtain ⟨stB, hH⟩ := hH
    obtain ⟨sB, hH⟩ := hH
    obtain ⟨bB, hH⟩ := hH
    obtain ⟨rrB, hH⟩ := hH
    obtain ⟨recB, hH⟩ := hH
    obtain ⟨ran, hH⟩ := hH
    obtain ⟨rr2, hH⟩ := hH
    obtain ⟨rr3, hH⟩ := hH
    obtain ⟨rr4, hH⟩ := hH
    obtain ⟨rt, hH⟩ := hH
    obtain ⟨rpa, hH⟩ := hH
    obtain ⟨lz, hH⟩ := hH
    obtain ⟨can, hH⟩ := hH
    obtain ⟨cts, hH⟩ := hH
    obtain ⟨td, hH⟩ := hH
    obtain ⟨lk, hH⟩ := hH
    obtain ⟨fc, hH⟩ := hH
    obtain ⟨FL, hH⟩ := hH
    obtain ⟨fcf, hH⟩ := hH
    obtain ⟨fpf, hH⟩ := hH
    obtain ⟨htz, hH⟩ := hH
    obtain ⟨hR, hH⟩ := hH
    obtain ⟨hTk, hH⟩ := hH
    obtain ⟨hgo, hH⟩ := hH
    obtain ⟨hmk, hH⟩ := hH
    obtain ⟨hM, hH⟩ := hH
    obtain ⟨hsA, hH⟩ := hH
    obtain ⟨hrA, hH⟩ := hH
    obtain ⟨hmA, hH⟩ := hH
    obtain ⟨hsB, hH⟩ := hH
    obtain ⟨hrB, hH⟩ := hH
    obtain ⟨hmB, hH⟩ := hH
    obtain ⟨hrt, hH⟩ := hH
    obtain ⟨hlz, hH⟩ := hH
    obtain ⟨rfl, rfl, rfl⟩ := hH
    obtain ⟨hc, hL6, hI5⟩ := id hgo
    have hL := gL6_8 hL6
    have hI := gG_up (b' := 7) hI5 (by decide)
    have hkb := gq_kN hmA hmB
    refine gq_goi (wc := [(h0, .inr (8, [.ref a, .int (nI tz), .ref r0, .int fp, .int ld, .ref p0, .ref m0, .null, .ref oA, .ref oB, .ref ra, .ref cu])), (m0, .inr (3, [.ref ms, .int vst, .int (nI vk), .int vm, .ref md])), (ms, .inr (7, [.ref mw])), (mw, .inl (cI, 34, .inl mf)), (p0, .inr (4, [.int (nI nc), .ref b1, .ref b2, .ref b3]))]) (wr := [(a, .inl (cB, 4000, .inl f)), (r0, .inr (6, [.ref d0, .int pv, .int fv, .int lp, .ref k4, .ref k5, .ref k6, .ref k7, .int (nI t), .int tl, .int vr, .int vl])), (k4, .inl (cI, 501, .inl (fun j => nI (Kd j)))), (k5, .inl (cI, 501, .inl sf)), (k6, .inl (cI, 501, .inl nf)), (k7, .inl (cI, 6, .inl (fun j => nI (Tk j)))), (b1, .inl (cI, 3, .inl (fun j => nI (L j)))), (b2, .inl (cI, 4, .inl cf)), (b3, .inl (cI, 192, .inl pf)), (d0, .inr (4, [.int (nI ncd), .ref e1, .ref e2, .ref e3])), (e1, .inl (cI, 3, .inl (fun j => nI (Ld j)))), (e2, .inl (cI, 4, .inl cfd)), (e3, .inl (cI, 192, .inl pfd)), (md, .inl (cI, 38, .inl vd)), (oA, .inr (2, [.int 0, .int flA, .int (nI stA), .int (nI sA), .ref bA])), (bA, .inl (cI, rrA, .inl recA)), (oB, .inr (2, [.int 0, .int flB, .int (nI stB), .int (nI sB), .ref bB])), (bB, .inl (cI, rrB, .inl recB)), (ra, .inr (5, [.int 0, .int ran, .int rr2, .int rr3, .int rr4, .int (nI rt), .ref a6])), (a6, .inl (cI, 38, .inl rpa)), (cu, .inr (0, [.ref f0, .int (nI lz), .int can, .ref a3l, .int cts, .ref a5t])), (a3l, .inl (cI, 2, .inl lk)), (a5t, .inl (cI, 2, .inl td)), (f0, .inr (4, [.int fc, .ref g1, .ref g2, .ref g3])), (g1, .inl (cI, 3, .inl (fun j => nI (FL j)))), (g2, .inl (cI, 4, .inl fcf)), (g3, .inl (cI, 192, .inl fpf))]) (va_runV (As := [.int z1]) (rest := []) ⟨hx, hb, hml, hown, hts⟩ (x_next8 l D cI cB cZ h0 ld (.ref a) (.int (nI tz)) (.ref r0) (.int fp) (.null) (.ref oA) (.ref oB) (.ref ra) (.ref cu) m0 ms mw vst (.int (nI vk)) (.int vm) (.ref md) mf p0 nc (.ref b1) (.ref b2) (.ref b3) z1 hc _) (cwV 1 hts gP_law__x_next8 rfl rfl rfl (by decide +kernel) ⟨Nat.le_of_ble_eq_true rfl, Nat.le_of_ble_eq_true rfl⟩) (gx_preV (ci := 8) (q0 := 0) hK gN.nil (gq_Pl hP) (gq_Dl hD) [0, 15, 16, 17, 7] rfl rfl rfl rfl) rfl rfl hl.1 rfl (lv_room (Nat.le_of_ble_eq_true rfl)) dL_law_408 ⟨(Nat.le_trans (Nat.add_le_add_right hkb.1 _) (Nat.le_of_ble_eq_true rfl)), (Nat.le_trans (Nat.add_le_add_right hkb.2 _) (Nat.le_of_ble_eq_true rfl))⟩) hP hD hS hA [0, 15, 16, 17, 7] [1, 2, 3, 4, 5, 6, 8, 9, 10, 11, 12, 13, 14, 18, 19, 20, 21, 22, 23, 24, 25, 26, 27, 28, 29, 30, 31] rfl rfl rfl (by decide) (fun r1 w1 H locs hp hP hD hS => ?_)
    obtain ⟨e_1, hp⟩ := hp
    obtain ⟨hx408_0, hp⟩ := hp
    obtain ⟨h9, hp⟩ := hp
    subst hp
    have h9 := h9.symm
    subst h9
    have hx408_0 : rQ (fun a b c => ¬ vst = 0 ∧ ¬ ld = 0 ∧ a < nc ∧ b = 0 ∧ c = 0) (fun a _ _ => nI (gNx (mf (13 + a)))) (-1) z1 (nI 0) (nI 0) e_1 := hx408_0
    have hP : va_P D vwCl ([(a, .inl (cB, 4000, .inl f)), (r0, .inr (6, [.ref d0, .int pv, .int fv, .int lp, .ref k4, .ref k5, .ref k6, .ref k7, .int (nI t), .int tl, .int vr, .int vl])), (k4, .inl (cI, 501, .inl (fun j => nI (Kd j)))), (k5, .inl (cI, 501, .inl sf)), (k6, .inl (cI, 501, .inl nf)), (k7, .inl (cI, 6, .inl (fun j => nI (Tk j)))), (b1, .inl (cI, 3, .inl (fun j => nI (L j)))), (b2, .inl (cI, 4, .inl cf)), (b3, .inl (cI, 192, .inl pf)), (d0, .inr (4, [.int (nI ncd), .ref e1, .ref e2, .ref e3])), (e1, .inl (cI, 3, .inl (fun j => nI (Ld j)))), (e2, .inl (cI, 4, .inl cfd)), (e3, .inl (cI, 192, .inl pfd)), (md, .inl (cI, 38, .inl vd)), (oA, .inr (2, [.int 0, .int flA, .int (nI stA), .int (nI sA), .ref bA])), (bA, .inl (cI, rrA, .inl recA)), (oB, .inr (2, [.int 0, .int flB, .int (nI stB), .int (nI sB), .ref bB])), (bB, .inl (cI, rrB, .inl recB)), (ra, .inr (5, [.int 0, .int ran, .int rr2, .int rr3, .int rr4, .int (nI rt), .ref a6])), (a6, .inl (cI, 38, .inl rpa)), (cu, .inr (0, [.ref f0, .int (nI lz), .int can, .ref a3l, .int cts, .ref a5t])), (a3l, .inl (cI, 2, .inl lk)), (a5t, .inl (cI, 2, .inl td)), (f0, .inr (4, [.int fc, .ref g1, .ref g2, .ref g3])), (g1, .inl (cI, 3, .inl (fun j => nI (FL j)))), (g2, .inl (cI, 4, .inl fcf)), (g3, .inl (cI, 192, .inl fpf)), (h0, .inr (8, [.ref a, .int (nI tz), .ref r0, .int fp, .int ld, .ref p0, .ref m0, .null, .ref oA, .ref oB, .ref ra, .ref cu])), (m0, .inr (3, [.ref ms, .int vst, .int (nI vk), .int vm, .ref md])), (ms, .inr (7, [.ref mw])), (mw, .inl (cI, 34, .inl mf)), (p0, .inr (4, [.int (nI nc), .ref b1, .ref b2, .ref b3]))] ++ w9) H := hP
    have hD : va_D A ([(a, .inl (cB, 4000, .inl f)), (r0, .inr (6, [.ref d0, .int pv, .int fv, .int lp, .ref k4, .ref k5, .ref k6, .ref k7, .int (nI t), .int tl, .int vr, .int vl])), (k4, .inl (cI, 501, .inl (fun j => nI (Kd j)))), (k5, .inl (cI, 501, .inl sf)), (k6, .inl (cI, 501, .inl nf)), (k7, .inl (cI, 6, .inl (fun j => nI (Tk j)))), (b1, .inl (cI, 3, .inl (fun j => nI (L j)))), (b2, .inl (cI, 4, .inl cf)), (b3, .inl (cI, 192, .inl pf)), (d0, .inr (4, [.int (nI ncd), .ref e1, .ref e2, .ref e3])), (e1, .inl (cI, 3, .inl (fun j => nI (Ld j)))), (e2, .inl (cI, 4, .inl cfd)), (e3, .inl (cI, 192, .inl pfd)), (md, .inl (cI, 38, .inl vd)), (oA, .inr (2, [.int 0, .int flA, .int (nI stA), .int (nI sA), .ref bA])), (bA, .inl (cI, rrA, .inl recA)), (oB, .inr (2, [.int 0, .int flB, .int (nI stB), .int (nI sB), .ref bB])), (bB, .inl (cI, rrB, .inl recB)), (ra, .inr (5, [.int 0, .int ran, .int rr2, .int rr3, .int rr4, .int (nI rt), .ref a6])), (a6, .inl (cI, 38, .inl rpa)), (cu, .inr (0, [.ref f0, .int (nI lz), .int can, .ref a3l, .int cts, .ref a5t])), (a3l, .inl (cI, 2, .inl lk)), (a5t, .inl (cI, 2, .inl td)), (f0, .inr (4, [.int fc, .ref g1, .ref g2, .ref g3])), (g1, .inl (cI, 3, .inl (fun j => nI (FL j)))), (g2, .inl (cI, 4, .inl fcf)), (g3, .inl (cI, 192, .inl fpf)), (h0, .inr (8, [.ref a, .int (nI tz), .ref r0, .int fp, .int ld, .ref p0, .ref m0, .null, .ref oA, .ref oB, .ref ra, .ref cu])), (m0, .inr (3, [.ref ms, .int vst, .int (nI vk), .int vm, .ref md])), (ms, .inr (7, [.ref mw])), (mw, .inl (cI, 34, .inl mf)), (p0, .inr (4, [.int (nI nc), .ref b1, .ref b2, .ref b3]))] ++ w9) := hD
    refine W.widen (k := 63 + (rrA / 17) + (rrB / 17)) (n := 584682 + (2 * rrA + 51000 * (rrA / 51000)) + (2 * rrB + 51000 * (rrB / 51000))) (Nat.le_refl _) (Nat.le_refl _) ?_
    have hP := gq_subP (X' := [(h0, .inr (8, [.ref a, .int (nI tz), .ref r0, .int fp, .int ld, .ref p0, .ref m0, .null, .ref oA, .ref oB, .ref ra, .ref cu])), (a, .inl (cB, 4000, .inl f)), (r0, .inr (6, [.ref d0, .int pv, .int fv, .int lp, .ref k4, .ref k5, .ref k6, .ref k7, .int (nI t), .int tl, .int vr, .int vl])), (k4, .inl (cI, 501, .inl (fun j => nI (Kd j)))), (k5, .inl (cI, 501, .inl sf)), (k6, .inl (cI, 501, .inl nf)), (k7, .inl (cI, 6, .inl (fun j => nI (Tk j)))), (p0, .inr (4, [.int (nI nc), .ref b1, .ref b2, .ref b3])), (b1, .inl (cI, 3, .inl (fun j => nI (L j)))), (b2, .inl (cI, 4, .inl cf)), (b3, .inl (cI, 192, .inl pf)), (d0, .inr (4, [.int (nI ncd), .ref e1, .ref e2, .ref e3])), (e1, .inl (cI, 3, .inl (fun j => nI (Ld j)))), (e2, .inl (cI, 4, .inl cfd)), (e3, .inl (cI, 192, .inl pfd)), (m0, .inr (3, [.ref ms, .int vst, .int (nI vk), .int vm, .ref md])), (ms, .inr (7, [.ref mw])), (mw, .inl (cI, 34, .inl mf)), (md, .inl (cI, 38, .inl vd)), (oA, .inr (2, [.int 0, .int flA, .int (nI stA), .int (nI sA), .ref bA])), (bA, .inl (cI, rrA, .inl recA)), (oB, .inr (2, [.int 0, .int flB, .int (nI stB), .int (nI sB), .ref bB])), (bB, .inl (cI, rrB, .inl recB)), (ra, .inr (5, [.int 0, .int ran, .int rr2, .int rr3, .int rr4, .int (nI rt), .ref a6])), (a6, .inl (cI, 38, .inl rpa)), (cu, .inr (0, [.ref f0, .int (nI lz), .int can, .ref a3l, .int cts, .ref a5t])), (a3l, .inl (cI, 2, .inl lk)), (a5t, .inl (cI, 2, .inl td)), (f0, .inr (4, [.int fc, .ref g1, .ref g2, .ref g3])), (g1, .inl (cI, 3, .inl (fun j => nI (FL j)))), (g2, .inl (cI, 4, .inl fcf)), (g3, .inl (cI, 192, .inl fpf))]) hP [27, 0, 1, 2, 3, 4, 5, 31, 6, 7, 8, 9, 10, 11, 12, 28, 29, 30, 13, 14, 15, 16, 17, 18, 19, 20, 21, 22, 23, 24, 25, 26] rfl
    have hD := gq_subD (X' := [(h0, .inr (8, [.ref a, .int (nI tz), .ref r0, .int fp, .int ld, .ref p0, .ref m0, .null, .ref oA, .ref oB, .ref ra, .ref cu])), (a, .inl (cB, 4000, .inl f)), (r0, .inr (6, [.ref d0, .int pv, .int fv, .int lp, .ref k4, .ref k5, .ref k6, .ref k7, .int (nI t), .int tl, .int vr, .int vl])), (k4, .inl (cI, 501, .inl (fun j => nI (Kd j)))), (k5, .inl (cI, 501, .inl sf)), (k6, .inl (cI, 501, .inl nf)), (k7, .inl (cI, 6, .inl (fun j => nI (Tk j)))), (p0, .inr (4, [.int (nI nc), .ref b1, .ref b2, .ref b3])), (b1, .inl (cI, 3, .inl (fun j => nI (L j)))), (b2, .inl (cI, 4, .inl cf)), (b3, .inl (cI, 192, .inl pf)), (d0, .inr (4, [.int (nI ncd), .ref e1, .ref e2, .ref e3])), (e1, .inl (cI, 3, .inl (fun j => nI (Ld j)))), (e2, .inl (cI, 4, .inl cfd)), (e3, .inl (cI, 192, .inl pfd)), (m0, .inr (3, [.ref ms, .int vst, .int (nI vk), .int vm, .ref md])), (ms, .inr (7, [.ref mw])), (mw, .inl (cI, 34, .inl mf)), (md, .inl (cI, 38, .inl vd)), (oA, .inr (2, [.int 0, .int flA, .int (nI stA), .int (nI sA), .ref bA])), (bA, .inl (cI, rrA, .inl recA)), (oB, .inr (2, [.int 0, .int flB, .int (nI stB), .int (nI sB), .ref bB])), (bB, .inl (cI, rrB, .inl recB)), (ra, .inr (5, [.int 0, .int ran, .int rr2, .int rr3, .int rr4, .int (nI rt), .ref a6])), (a6, .inl (cI, 38, .inl rpa)), (cu, .inr (0, [.ref f0, .int (nI lz), .int can, .ref a3l, .int cts, .ref a5t])), (a3l, .inl (cI, 2, .inl lk)), (a5t, .inl (cI, 2, .inl td)), (f0, .inr (4, [.int fc, .ref g1, .ref g2, .ref g3])), (g1, .inl (cI, 3, .inl (fun j => nI (FL j)))), (g2, .inl (cI, 4, .inl fcf)), (g3, .inl (cI, 192, .inl fpf))]) hD [27, 0, 1, 2, 3, 4, 5, 31, 6, 7, 8, 9, 10, 11, 12, 28, 29, 30, 13, 14, 15, 16, 17, 18, 19, 20, 21, 22, 23, 24, 25, 26] (by decide) rfl
    exact kk e_1 _ tz f fp ld nc L cf pf vst vk vm vd _ _ H locs (Or.inl (HallN_mk cI cB cZ h0 tz f fp ld nc L cf pf vst vk vm vd a r0 k4 k5 k6 k7 p0 b1 b2 b3 d0 e1 e2 e3 m0 ms mw md oA oB ra a6 cu f0 g1 g2 g3 a3l a5t pv fv lp t tl vr vl Kd sf nf Tk ncd Ld cfd pfd mf flA stA sA bA rrA recA flB stB sB bB rrB recB ran rr2 rr3 rr4 rt rpa lz can cts td lk fc FL fcf fpf htz hR hTk hgo hmk hM hsA hrA hmA hsB hrB hmB hrt hlz)) ⟨rq_m (ok := fun g a b c => ¬ vst = 0 ∧ ¬ ld = 0 ∧ a < nc ∧ b = 0 ∧ c = 0) (val := fun g a _ _ => nI (gNx (g (13 + a)))) hM (fun _ _ _ _ h => h.1) hx408_0, rfl, rfl, rfl, rfl, rfl, rfl, rfl, rfl, rfl, rfl, rfl, rfl⟩ hP hD hS
  · unfold HallE at hH
    obtain ⟨a, hH⟩ := hH
    obtain ⟨r0, hH⟩ := hH
    obtain ⟨k4, hH⟩ := hH
    obtain ⟨k5, hH⟩ := hH
    obtain ⟨k6, hH⟩ := hH
    obtain ⟨k7, hH⟩ := hH
    obtain ⟨p0, hH⟩ := hH
    obtain ⟨b1, hH⟩ := hH
    obtain ⟨b2, hH⟩ := hH
    obtain ⟨b3, hH⟩ := hH
    obtain ⟨d0, hH⟩ := hH
    obtain ⟨e1, hH⟩ := hH
    obtain ⟨e2, hH⟩ := hH
    obtain ⟨e3, hH⟩ := hH
    obtain ⟨m0, hH⟩ := hH
    obtain ⟨ms, hH⟩ := hH
    obtain ⟨mw, hH⟩ := hH
    obtain ⟨md, hH⟩ := hH
    obtain ⟨oA, hH⟩ := hH
    obtain ⟨oB, hH⟩ := hH
    obtain ⟨ra, hH⟩ := hH
    obtain ⟨a6, hH⟩ := hH
    obtain ⟨cu, hH⟩ := hH
    obtain ⟨f0, hH⟩ := hH
    obtain ⟨g1, hH⟩ := hH
    obtain ⟨g2, hH⟩ := hH
    obtain ⟨g3, hH⟩ := hH
    obtain ⟨a3l, hH⟩ := hH
    obtain ⟨a5t, hH⟩ := hH
    obtain ⟨pv, hH⟩ := hH
    obtain ⟨fv, hH⟩ := hH
    obtain ⟨lp, hH⟩ := hH
    obtain ⟨t, hH⟩ := hH
    obtain ⟨tl, hH⟩ := hH
    obtain ⟨vr, hH⟩ := hH
    obtain ⟨vl, hH⟩ := hH
    obtain ⟨Kd, hH⟩ := hH
    obtain ⟨sf, hH⟩ := hH
    obtain ⟨nf, hH⟩ := hH
    obtain ⟨Tk, hH⟩ := hH
    obtain ⟨ncd, hH⟩ := hH
    obtain ⟨Ld, hH⟩ := hH
    obtain ⟨cfd, hH⟩ := hH
    obtain ⟨pfd, hH⟩ := hH
    obtain ⟨mf, hH⟩ := hH
    obtain ⟨knA, hH⟩ := hH
    obtain ⟨flA, hH⟩ := hH
    obtain ⟨stA, hH⟩ := hH
    obtain ⟨sA, hH⟩ := hH
    obtain ⟨bA, hH⟩ := hH
    obtain ⟨rrA, hH⟩ := hH
    obtain ⟨recA, hH⟩ := hH
    obtain ⟨knB, hH⟩ := hH
    obtain ⟨flB, hH⟩ := hH
    obtain ⟨stB, hH⟩ := hH
    obtain ⟨sB, hH⟩ := hH
    obtain ⟨bB, hH⟩ := hH
    obtain ⟨rrB, hH⟩ := hH
    obtain ⟨recB, hH⟩ := hH
    obtain ⟨rkn, hH⟩ := hH
    obtain ⟨ran, hH⟩ := hH
    obtain ⟨rr2, hH⟩ := hH
    obtain ⟨rr3, hH⟩ := hH
    obtain ⟨rr4, hH⟩ := hH
    obtain ⟨rt, hH⟩ := hH
    obtain ⟨rpa, hH⟩ := hH
    obtain ⟨lz, hH⟩ := hH
    obtain ⟨can, hH⟩ := hH
    obtain ⟨cts, hH⟩ := hH
    obtain ⟨td, hH⟩ := hH
    obtain ⟨lk, hH⟩ := hH
    obtain ⟨fc, hH⟩ := hH
    obtain ⟨FL, hH⟩ := hH
    obtain ⟨fcf, hH⟩ := hH
    obtain ⟨fpf, hH⟩ := hH
    obtain ⟨x0, hH⟩ := hH
    obtain ⟨a2, hH⟩ := hH
    obtain ⟨s4, hH⟩ := hH
    obtain ⟨w4, hH⟩ := hH
    obtain ⟨s5, hH⟩ := hH
    obtain ⟨w5, hH⟩ := hH
    obtain ⟨a8, hH⟩ := hH
    obtain ⟨a9, hH⟩ := hH
    obtain ⟨a3, hH⟩ := hH
    obtain ⟨i0, hH⟩ := hH
    obtain ⟨i1, hH⟩ := hH
    obtain ⟨i6, hH⟩ := hH
    obtain ⟨a7, hH⟩ := hH
    obtain ⟨rl, hH⟩ := hH
    obtain ⟨rf, hH⟩ := hH
    obtain ⟨f4, hH⟩ := hH
    obtain ⟨f5, hH⟩ := hH
    obtain ⟨ef, hH⟩ := hH
    obtain ⟨sl, hH⟩ := hH
    obtain ⟨cm, hH⟩ := hH
    obtain ⟨pp, hH⟩ := hH
    obtain ⟨htz, hH⟩ := hH
    obtain ⟨hR, hH⟩ := hH
    obtain ⟨hTk, hH⟩ := hH
    obtain ⟨hgo, hH⟩ := hH
    obtain ⟨hmk, hH⟩ := hH
    obtain ⟨hM, hH⟩ := hH
    obtain ⟨hsA, hH⟩ := hH
    obtain ⟨hrA, hH⟩ := hH
    obtain ⟨hmA, hH⟩ := hH
    obtain ⟨hsB, hH⟩ := hH
    obtain ⟨hrB, hH⟩ := hH
    obtain ⟨hmB, hH⟩ := hH
    obtain ⟨hrt, hH⟩ := hH
    obtain ⟨hlz, hH⟩ := hH
    obtain ⟨hrl, hH⟩ := hH
    obtain ⟨hrm, hH⟩ := hH
    obtain ⟨rfl, rfl, rfl⟩ := hH
    obtain ⟨hc, hL6, hI5⟩ := id hgo
    have hL := gL6_8 hL6
    have hI := gG_up (b' := 7) hI5 (by decide)
    have hkb := gq_k hmA hmB hrm.2
    refine gq_goi (wc := [(h0, .inr (8, [.ref a, .int (nI tz), .ref r0, .int fp, .int ld, .ref p0, .ref m0, .ref x0, .ref oA, .ref oB, .ref ra, .ref cu])), (m0, .inr (3, [.ref ms, .int vst, .int (nI vk), .int vm, .ref md])), (ms, .inr (7, [.ref mw])), (mw, .inl (cI, 34, .inl mf)), (p0, .inr (4, [.int (nI nc), .ref b1, .ref b2, .ref b3]))]) (wr := [(a, .inl (cB, 4000, .inl f)), (r0, .inr (6, [.ref d0, .int pv, .int fv, .int lp, .ref k4, .ref k5, .ref k6, .ref k7, .int (nI t), .int tl, .int vr, .int vl])), (k4, .inl (cI, 501, .inl (fun j => nI (Kd j)))), (k5, .inl (cI, 501, .inl sf)), (k6, .inl (cI, 501, .inl nf)), (k7, .inl (cI, 6, .inl (fun j => nI (Tk j)))), (b1, .inl (cI, 3, .inl (fun j => nI (L j)))), (b2, .inl (cI, 4, .inl cf)), (b3, .inl (cI, 192, .inl pf)), (d0, .inr (4, [.int (nI ncd), .ref e1, .ref e2, .ref e3])), (e1, .inl (cI, 3, .inl (fun j => nI (Ld j)))), (e2, .inl (cI, 4, .inl cfd)), (e3, .inl (cI, 192, .inl pfd)), (md, .inl (cI, 38, .inl vd)), (oA, .inr (2, [.int knA, .int flA, .int (nI stA), .int (nI sA), .ref bA])), (bA, .inl (cI, rrA, .inl recA)), (oB, .inr (2, [.int knB, .int flB, .int (nI stB), .int (nI sB), .ref bB])), (bB, .inl (cI, rrB, .inl recB)), (ra, .inr (5, [.int rkn, .int ran, .int rr2, .int rr3, .int rr4, .int (nI rt), .ref a6])), (a6, .inl (cI, 38, .inl rpa)), (cu, .inr (0, [.ref f0, .int (nI lz), .int can, .ref a3l, .int cts, .ref a5t])), (a3l, .inl (cI, 2, .inl lk)), (a5t, .inl (cI, 2, .inl td)), (f0, .inr (4, [.int fc, .ref g1, .ref g2, .ref g3])), (g1, .inl (cI, 3, .inl (fun j => nI (FL j)))), (g2, .inl (cI, 4, .inl fcf)), (g3, .inl (cI, 192, .inl fpf)), (x0, .inr (1, [.int i0, .int i1, .ref a2, .ref a3, .ref s4, .ref s5, .int i6, .ref a7, .ref a8, .ref a9])), (s4, .inr (7, [.ref w4])), (w4, .inl (cI, 34, .inl f4)), (s5, .inr (7, [.ref w5])), (w5, .inl (cI, 34, .inl f5)), (a2, .inl (cI, 3000, .inl ef)), (a7, .inl (cI, rl, .inl rf)), (a8, .inl (cI, 4096, .inl sl)), (a9, .inl (cI, 3000, .inl cm)), (a3, .inl (cI, 38, .inl pp))]) (va_runV (As := [.int z1]) (rest := []) ⟨hx, hb, hml, hown, hts⟩ (x_next8 l D cI cB cZ h0 ld (.ref a) (.int (nI tz)) (.ref r0) (.int fp) (.ref x0) (.ref oA) (.ref oB) (.ref ra) (.ref cu) m0 ms mw vst (.int (nI vk)) (.int vm) (.ref md) mf p0 nc (.ref b1) (.ref b2) (.ref b3) z1 hc _) (cwV 1 hts gP_law__x_next8 rfl rfl rfl (by decide +kernel) ⟨Nat.le_of_ble_eq_true rfl, Nat.le_of_ble_eq_true rfl⟩) (gx_preV (ci := 8) (q0 := 0) hK gN.nil (gq_Pl hP) (gq_Dl hD) [0, 15, 16, 17, 7] rfl rfl rfl rfl) rfl rfl hl.1 rfl (lv_room (Nat.le_of_ble_eq_true rfl)) dL_law_408 ⟨(Nat.le_trans (Nat.add_le_add_right hkb.1 _) (Nat.le_of_ble_eq_true rfl)), (Nat.le_trans (Nat.add_le_add_right hkb.2 _) (Nat.le_of_ble_eq_true rfl))⟩) hP hD hS hA [0, 15, 16, 17, 7] [1, 2, 3, 4, 5, 6, 8, 9, 10, 11, 12, 13, 14, 18, 19, 20, 21, 22, 23, 24, 25, 26, 27, 28, 29, 30, 31, 32, 33, 34, 35, 36, 37, 38, 39, 40, 41] rfl rfl rfl (by decide) (fun r1 w1 H locs hp hP hD hS => ?_)
    obtain ⟨e_1, hp⟩ := hp
    obtain ⟨hx408_0, hp⟩ := hp
    obtain ⟨h9, hp⟩ := hp
    subst hp
    have h9 := h9.symm
    subst h9
    have hx408_0 : rQ (fun a b c => ¬ vst = 0 ∧ ¬ ld = 0 ∧ a < nc ∧ b = 0 ∧ c = 0) (fun a _ _ => nI (gNx (mf (13 + a)))) (-1) z1 (nI 0) (nI 0) e_1 := hx408_0
    have hP : va_P D vwCl ([(a, .inl (cB, 4000, .inl f)), (r0, .inr (6, [.ref d0, .int pv, .int fv, .int lp, .ref k4, .ref k5, .ref k6, .ref k7, .int (nI t), .int tl, .int vr, .int vl])), (k4, .inl (cI, 501, .inl (fun j => nI (Kd j)))), (k5, .inl (cI, 501, .inl sf)), (k6, .inl (cI, 501, .inl nf)), (k7, .inl (cI, 6, .inl (fun j => nI (Tk j)))), (b1, .inl (cI, 3, .inl (fun j => nI (L j)))), (b2, .inl (cI, 4, .inl cf)), (b3, .inl (cI, 192, .inl pf)), (d0, .inr (4, [.int (nI ncd), .ref e1, .ref e2, .ref e3])), (e1, .inl (cI, 3, .inl (fun j => nI (Ld j)))), (e2, .inl (cI, 4, .inl cfd)), (e3, .inl (cI, 192, .inl pfd)), (md, .inl (cI, 38, .inl vd)), (oA, .inr (2, [.int knA, .int flA, .int (nI stA), .int (nI sA), .ref bA])), (bA, .inl (cI, rrA, .inl recA)), (oB, .inr (2, [.int knB, .int flB, .int (nI stB), .int (nI sB), .ref bB])), (bB, .inl (cI, rrB, .inl recB)), (ra, .inr (5, [.int rkn, .int ran, .int rr2, .int rr3, .int rr4, .int (nI rt), .ref a6])), (a6, .inl (cI, 38, .inl rpa)), (cu, .inr (0, [.ref f0, .int (nI lz), .int can, .ref a3l, .int cts, .ref a5t])), (a3l, .inl (cI, 2, .inl lk)), (a5t, .inl (cI, 2, .inl td)), (f0, .inr (4, [.int fc, .ref g1, .ref g2, .ref g3])), (g1, .inl (cI, 3, .inl (fun j => nI (FL j)))), (g2, .inl (cI, 4, .inl fcf)), (g3, .inl (cI, 192, .inl fpf)), (x0, .inr (1, [.int i0, .int i1, .ref a2, .ref a3, .ref s4, .ref s5, .int i6, .ref a7, .ref a8, .ref a9])), (s4, .inr (7, [.ref w4])), (w4, .inl (cI, 34, .inl f4)), (s5, .inr (7, [.ref w5])), (w5, .inl (cI, 34, .inl f5)), (a2, .inl (cI, 3000, .inl ef)), (a7, .inl (cI, rl, .inl rf)), (a8, .inl (cI, 4096, .inl sl)), (a9, .inl (cI, 3000, .inl cm)), (a3, .inl (cI, 38, .inl pp)), (h0, .inr (8, [.ref a, .int (nI tz), .ref r0, .int fp, .int ld, .ref p0, .ref m0, .ref x0, .ref oA, .ref oB, .ref ra, .ref cu])), (m0, .inr (3, [.ref ms, .int vst, .int (nI vk), .int vm, .ref md])), (ms, .inr (7, [.ref mw])), (mw, .inl (cI, 34, .inl mf)), (p0, .inr (4, [.int (nI nc), .ref b1, .ref b2, .ref b3]))] ++ w9) H := hP
    have hD : va_D A ([(a, .inl (cB, 4000, .inl f)), (r0, .inr (6, [.ref d0, .int pv, .int fv, .int lp, .ref k4, .ref k5, .ref k6, .ref k7, .int (nI t), .int tl, .int vr, .int vl])), (k4, .inl (cI, 501, .inl (fun j => nI (Kd j)))), (k5, .inl (cI, 501, .inl sf)), (k6, .inl (cI, 501, .inl nf)), (k7, .inl (cI, 6, .inl (fun j => nI (Tk j)))), (b1, .inl (cI, 3, .inl (fun j => nI (L j)))), (b2, .inl (cI, 4, .inl cf)), (b3, .inl (cI, 192, .inl pf)), (d0, .inr (4, [.int (nI ncd), .ref e1, .ref e2, .ref e3])), (e1, .inl (cI, 3, .inl (fun j => nI (Ld j)))), (e2, .inl (cI, 4, .inl cfd)), (e3, .inl (cI, 192, .inl pfd)), (md, .inl (cI, 38, .inl vd)), (oA, .inr (2, [.int knA, .int flA, .int (nI stA), .int (nI sA), .ref bA])), (bA, .inl (cI, rrA, .inl recA)), (oB, .inr (2, [.int knB, .int flB, .int (nI stB), .int (nI sB), .ref bB])), (bB, .inl (cI, rrB, .inl recB)), (ra, .inr (5, [.int rkn, .int ran, .int rr2, .int rr3, .int rr4, .int (nI rt), .ref a6])), (a6, .inl (cI, 38, .inl rpa)), (cu, .inr (0, [.ref f0, .int (nI lz), .int can, .ref a3l, .int cts, .ref a5t])), (a3l, .inl (cI, 2, .inl lk)), (a5t, .inl (cI, 2, .inl td)), (f0, .inr (4, [.int fc, .ref g1, .ref g2, .ref g3])), (g1, .inl (cI, 3, .inl (fun j => nI (FL j)))), (g2, .inl (cI, 4, .inl fcf)), (g3, .inl (cI, 192, .inl fpf)), (x0, .inr (1, [.int i0, .int i1, .ref a2, .ref a3, .ref s4, .ref s5, .int i6, .ref a7, .ref a8, .ref a9])), (s4, .inr (7, [.ref w4])), (w4, .inl (cI, 34, .inl f4)), (s5, .inr (7, [.ref w5])), (w5, .inl (cI, 34, .inl f5)), (a2, .inl (cI, 3000, .inl ef)), (a7, .inl (cI, rl, .inl rf)), (a8, .inl (cI, 4096, .inl sl)), (a9, .inl (cI, 3000, .inl cm)), (a3, .inl (cI, 38, .inl pp)), (h0, .inr (8, [.ref a, .int (nI tz), .ref r0, .int fp, .int ld, .ref p0, .ref m0, .ref x0, .ref oA, .ref oB, .ref ra, .ref cu])), (m0, .inr (3, [.ref ms, .int vst, .int (nI vk), .int vm, .ref md])), (ms, .inr (7, [.ref mw])), (mw, .inl (cI, 34, .inl mf)), (p0, .inr (4, [.int (nI nc), .ref b1, .ref b2, .ref b3]))] ++ w9) := hD
    refine W.widen (k := 63 + (rrA / 17) + (rrB / 17) + 10 + ((rl - 1600) / 4800)) (n := 584682 + (2 * rrA + 51000 * (rrA / 51000)) + (2 * rrB + 51000 * (rrB / 51000)) + 11814 + (2 * (rl - 1600))) (Nat.le_refl _) (Nat.le_refl _) ?_
    have hP := gq_subP (X' := [(h0, .inr (8, [.ref a, .int (nI tz), .ref r0, .int fp, .int ld, .ref p0, .ref m0, .ref x0, .ref oA, .ref oB, .ref ra, .ref cu])), (a, .inl (cB, 4000, .inl f)), (r0, .inr (6, [.ref d0, .int pv, .int fv, .int lp, .ref k4, .ref k5, .ref k6, .ref k7, .int (nI t), .int tl, .int vr, .int vl])), (k4, .inl (cI, 501, .inl (fun j => nI (Kd j)))), (k5, .inl (cI, 501, .inl sf)), (k6, .inl (cI, 501, .inl nf)), (k7, .inl (cI, 6, .inl (fun j => nI (Tk j)))), (p0, .inr (4, [.int (nI nc), .ref b1, .ref b2, .ref b3])), (b1, .inl (cI, 3, .inl (fun j => nI (L j)))), (b2, .inl (cI, 4, .inl cf)), (b3, .inl (cI, 192, .inl pf)), (d0, .inr (4, [.int (nI ncd), .ref e1, .ref e2, .ref e3])), (e1, .inl (cI, 3, .inl (fun j => nI (Ld j)))), (e2, .inl (cI, 4, .inl cfd)), (e3, .inl (cI, 192, .inl pfd)), (m0, .inr (3, [.ref ms, .int vst, .int (nI vk), .int vm, .ref md])), (ms, .inr (7, [.ref mw])), (mw, .inl (cI, 34, .inl mf)), (md, .inl (cI, 38, .inl vd)), (oA, .inr (2, [.int knA, .int flA, .int (nI stA), .int (nI sA), .ref bA])), (bA, .inl (cI, rrA, .inl recA)), (oB, .inr (2, [.int knB, .int flB, .int (nI stB), .int (nI sB), .ref bB])), (bB, .inl (cI, rrB, .inl recB)), (ra, .inr (5, [.int rkn, .int ran, .int rr2, .int rr3, .int rr4, .int (nI rt), .ref a6])), (a6, .inl (cI, 38, .inl rpa)), (cu, .inr (0, [.ref f0, .int (nI lz), .int can, .ref a3l, .int cts, .ref a5t])), (a3l, .inl (cI, 2, .inl lk)), (a5t, .inl (cI, 2, .inl td)), (f0, .inr (4, [.int fc, .ref g1, .ref g2, .ref g3])), (g1, .inl (cI, 3, .inl (fun j => nI (FL j)))), (g2, .inl (cI, 4, .inl fcf)), (g3, .inl (cI, 192, .inl fpf)), (x0, .inr (1, [.int i0, .int i1, .ref a2, .ref a3, .ref s4, .ref s5, .int i6, .ref a7, .ref a8, .ref a9])), (s4, .inr (7, [.ref w4])), (w4, .inl (cI, 34, .inl f4)), (s5, .inr (7, [.ref w5])), (w5, .inl (cI, 34, .inl f5)), (a2, .inl (cI, 3000, .inl ef)), (a7, .inl (cI, rl, .inl rf)), (a8, .inl (cI, 4096, .inl sl)), (a9, .inl (cI, 3000, .inl cm)), (a3, .inl (cI, 38, .inl pp))]) hP [37, 0, 1, 2, 3, 4, 5, 41, 6, 7, 8, 9, 10, 11, 12, 38, 39, 40, 13, 14, 15, 16, 17, 18, 19, 20, 21, 22, 23, 24, 25, 26, 27, 28, 29, 30, 31, 32, 33, 34, 35, 36] rfl
    have hD := gq_subD (X' := [(h0, .inr (8, [.ref a, .int (nI tz), .ref r0, .int fp, .int ld, .ref p0, .ref m0, .ref x0, .ref oA, .ref oB, .ref ra, .ref cu])), (a, .inl (cB, 4000, .inl f)), (r0, .inr (6, [.ref d0, .int pv, .int fv, .int lp, .ref k4, .ref k5, .ref k6, .ref k7, .int (nI t), .int tl, .int vr, .int vl])), (k4, .inl (cI, 501, .inl (fun j => nI (Kd j)))), (k5, .inl (cI, 501, .inl sf)), (k6, .inl (cI, 501, .inl nf)), (k7, .inl (cI, 6, .inl (fun j => nI (Tk j)))), (p0, .inr (4, [.int (nI nc), .ref b1, .ref b2, .ref b3])), (b1, .inl (cI, 3, .inl (fun j => nI (L j)))), (b2, .inl (cI, 4, .inl cf)), (b3, .inl (cI, 192, .inl pf)), (d0, .inr (4, [.int (nI ncd), .ref e1, .ref e2, .ref e3])), (e1, .inl (cI, 3, .inl (fun j => nI (Ld j)))), (e2, .inl (cI, 4, .inl cfd)), (e3, .inl (cI, 192, .inl pfd)), (m0, .inr (3, [.ref ms, .int vst, .int (nI vk), .int vm, .ref md])), (ms, .inr (7, [.ref mw])), (mw, .inl (cI, 34, .inl mf)), (md, .inl (cI, 38, .inl vd)), (oA, .inr (2, [.int knA, .int flA, .int (nI stA), .int (nI sA), .ref bA])), (bA, .inl (cI, rrA, .inl recA)), (oB, .inr (2, [.int knB, .int flB, .int (nI stB), .int (nI sB), .ref bB])), (bB, .inl (cI, rrB, .inl recB)), (ra, .inr (5, [.int rkn, .int ran, .int rr2, .int rr3, .int rr4, .int (nI rt), .ref a6])), (a6, .inl (cI, 38, .inl rpa)), (cu, .inr (0, [.ref f0, .int (nI lz), .int can, .ref a3l, .int cts, .ref a5t])), (a3l, .inl (cI, 2, .inl lk)), (a5t, .inl (cI, 2, .inl td)), (f0, .inr (4, [.int fc, .ref g1, .ref g2, .ref g3])), (g1, .inl (cI, 3, .inl (fun j => nI (FL j)))), (g2, .inl (cI, 4, .inl fcf)), (g3, .inl (cI, 192, .inl fpf)), (x0, .inr (1, [.int i0, .int i1, .ref a2, .ref a3, .ref s4, .ref s5, .int i6, .ref a7, .ref a8, .ref a9])), (s4, .inr (7, [.ref w4])), (w4, .inl (cI, 34, .inl f4)), (s5, .inr (7, [.ref w5])), (w5, .inl (cI, 34, .inl f5)), (a2, .inl (cI, 3000, .inl ef)), (a7, .inl (cI, rl, .inl rf)), (a8, .inl (cI, 4096, .inl sl)), (a9, .inl (cI, 3000, .inl cm)), (a3, .inl (cI, 38, .inl pp))]) hD [37, 0, 1, 2, 3, 4, 5, 41, 6, 7, 8, 9, 10, 11, 12, 38, 39, 40, 13, 14, 15, 16, 17, 18, 19, 20, 21, 22, 23, 24, 25, 26, 27, 28, 29, 30, 31, 32, 33, 34, 35, 36] (by decide) rfl
    exact kk e_1 _ tz f fp ld nc L cf pf vst vk vm vd _ _ H locs (Or.inr (HallE_mk cI cB cZ h0 tz f fp ld nc L cf pf vst vk vm vd a r0 k4 k5 k6 k7 p0 b1 b2 b3 d0 e1 e2 e3 m0 ms mw md oA oB ra a6 cu f0 g1 g2 g3 a3l a5t pv fv lp t tl vr vl Kd sf nf Tk ncd Ld cfd pfd mf knA flA stA sA bA rrA recA knB flB stB sB bB rrB recB rkn ran rr2 rr3 rr4 rt rpa lz can cts td lk fc FL fcf fpf x0 a2 s4 w4 s5 w5 a8 a9 a3 i0 i1 i6 a7 rl rf f4 f5 ef sl cm pp htz hR hTk hgo hmk hM hsA hrA hmA hsB hrB hmB hrt hlz hrl hrm)) ⟨rq_m (ok := fun g a b c => ¬ vst = 0 ∧ ¬ ld = 0 ∧ a < nc ∧ b = 0 ∧ c = 0) (val := fun g a _ _ => nI (gNx (g (13 + a)))) hM (fun _ _ _ _ h => h.1) hx408_0, rfl, rfl, rfl, rfl, rfl, rfl, rfl, rfl, rfl, rfl, rfl, rfl⟩ hP hD hS
set_option maxHeartbeats 4000000 in
set_option maxRecDepth 100000 in
theorem hl_store {p : Program} {l : Launch} {e : Env} {s : State} {m : MethodId} {below : List Frame} {meth : Method} {c : Code} {b : Nat} {A : Nat → Prop} {Q : State → Prop} {D : va_G} {cI cB cZ : ClassId} {K : gKS} (G : gL p s m c b A D cI cB cZ K) {H : Heap} {locs : List Loc} {ls : Array Slot} {w8 w9 : va_W} {h0 tz kc ns : Nat} {f : Nat → Int32} {fp ld : Int32} {nc : Nat} {L : Nat → Nat} {cf : Nat → Int32} {pf : Nat → Int32} {vst : Int32} {vk : Nat} {vm : Int32} {vd : Nat → Int32} (hH : HallI cI cB cZ h0 w8 tz f fp ld nc L cf pf vst vk vm vd kc ns) (hP : va_P D vwCl (w8 ++ w9) H) (hD : va_D A (w8 ++ w9)) (hS : va_S A s.heap H locs) (hl : ls.size = 4 ∧ True) (z1 : Int32) (z2 : Int32) (z3 : Int32) (kk : ∀ (r : Int32) (w8' : va_W) (tz9 : Nat) (f9 : Nat → Int32) (fp9 ld9 : Int32) (nc9 : Nat) (L9 : Nat → Nat) (cf9 : Nat → Int32) (pf9 : Nat → Int32) (vst9 : Int32) (vk9 : Nat) (vm9 : Int32) (vd9 : Nat → Int32) (kc9 ns9 : Nat) (H1 : Heap) (locs1 : List Loc), HallI cI cB cZ h0 w8' tz9 f9 fp9 ld9 nc9 L9 cf9 pf9 vst9 vk9 vm9 vd9 kc9 ns9 → (rQ (fun a b c => ¬ vst = 0 ∧ ¬ ld = 0 ∧ a < nc ∧ b < gSz ((gRun pf cf vm vd vk) (13 + a)) ∧ c < 2) (fun a b c => if c = 0 then nI (gCl ((gRun pf cf vm vd vk) (13 + a)) b) else (gRun pf cf vm vd vk) ((16 + (a * 6)) + b)) (-1) z1 z2 z3 r ∧ tz = tz9 ∧ f = f9 ∧ fp = fp9 ∧ ld = ld9 ∧ nc = nc9 ∧ L = L9 ∧ cf = cf9 ∧ pf = pf9 ∧ vst = vst9 ∧ vk = vk9 ∧ vm = vm9 ∧ vd = vd9) → va_P D vwCl (w8' ++ w9) H1 → va_D A (w8' ++ w9) → va_S A s.heap H1 locs1 → W p l e room_1 s m #[Value.ref b] below meth c H1 locs1 kc9 ns9 Q (F0 m 444 ls [.int r])) : W p l e room_1 s m #[Value.ref b] below meth c H locs kc ns Q (F0 m 441 ls [.int z3, .int z2, .int z1, .ref h0]) := by
  obtain ⟨hx, hb, hml, hown, hts, hA, hK, hN, hE⟩ := G
  rcases hH with hH | hH
  · unfold HallN at hH
    obtain ⟨a, hH⟩ := hH
    obtain ⟨r0, hH⟩ := hH
    obtain ⟨k4, hH⟩ := hH
    obtain ⟨k5, hH⟩ := hH
    obtain ⟨k6, hH⟩ := hH
    obtain ⟨k7, hH⟩ := hH
    obtain ⟨p0, hH⟩ := hH
    obtain ⟨b1, hH⟩ := hH
    obtain ⟨b2, hH⟩ := hH
    obtain ⟨b3, hH⟩ := hH
    obtain ⟨d0, hH⟩ := hH
    obtain ⟨e1, hH⟩ := hH
    obtain ⟨e2, hH⟩ := hH
    obtain ⟨e3, hH⟩ := hH
    obtain ⟨m0, hH⟩ := hH
    obtain ⟨ms, hH⟩ := hH
    obtain ⟨mw, hH⟩ := hH
    obtain ⟨md, hH⟩ := hH
    obtain ⟨oA, hH⟩ := hH
    obtain ⟨oB, hH⟩ := hH
    obtain ⟨ra, hH⟩ := hH
    obtain ⟨a6, hH⟩ := hH
    obtain ⟨cu, hH⟩ := hH
    obtain ⟨f0, hH⟩ := hH
    obtain ⟨g1, hH⟩ := hH
    obtain ⟨g2, hH⟩ := hH
    obtain ⟨g3, hH⟩ := hH
    obtain ⟨a3l, hH⟩ := hH
    obtain ⟨a5t, hH⟩ := hH
    obtain ⟨pv, hH⟩ := hH
    obtain ⟨fv, hH⟩ := hH
    obtain ⟨lp, hH⟩ := hH
    obtain ⟨t, hH⟩ := hH
    obtain ⟨tl, hH⟩ := hH
    obtain ⟨vr, hH⟩ := hH
    obtain ⟨vl, hH⟩ := hH
    obtain ⟨Kd, hH⟩ := hH
    obtain ⟨sf, hH⟩ := hH
    obtain ⟨nf, hH⟩ := hH
    obtain ⟨Tk, hH⟩ := hH
    obtain ⟨ncd, hH⟩ := hH
    obtain ⟨Ld, hH⟩ := hH
    obtain ⟨cfd, hH⟩ := hH
    obtain ⟨pfd, hH⟩ := hH
    obtain ⟨mf, hH⟩ := hH
    obtain ⟨flA, hH⟩ := hH
    obtain ⟨stA, hH⟩ := hH
    obtain ⟨sA, hH⟩ := hH
    obtain ⟨bA, hH⟩ := hH
    obtain ⟨rrA, hH⟩ := hH
    obtain ⟨recA, hH⟩ := hH
    obtain ⟨flB, hH⟩ := hH
    obtain ⟨stB, hH⟩ := hH
    obtain ⟨sB, hH⟩ := hH
    obtain ⟨bB, hH⟩ := hH
    obtain ⟨rrB, hH⟩ := hH
    obtain ⟨recB, hH⟩ := hH
    obtain ⟨ran, hH⟩ := hH
    obtain ⟨rr2, hH⟩ := hH
    obtain ⟨rr3, hH⟩ := hH
    obtain ⟨rr4, hH⟩ := hH
    obtain ⟨rt, hH⟩ := hH
    obtain ⟨rpa, hH⟩ := hH
    obtain ⟨lz, hH⟩ := hH
    obtain ⟨can, hH⟩ := hH
    obtain ⟨cts, hH⟩ := hH
    obtain ⟨td, hH⟩ := hH
    obtain ⟨lk, hH⟩ := hH
    obtain ⟨fc, hH⟩ := hH
    obtain ⟨FL, hH⟩ := hH
    obtain ⟨fcf, hH⟩ := hH
    obtain ⟨fpf, hH⟩ := hH
    obtain ⟨htz, hH⟩ := hH
    obtain ⟨hR, hH⟩ := hH
    obtain ⟨hTk, hH⟩ := hH
    obtain ⟨hgo, hH⟩ := hH
    obtain ⟨hmk, hH⟩ := hH
    obtain ⟨hM, hH⟩ := hH
    obtain ⟨hsA, hH⟩ := hH
    obtain ⟨hrA, hH⟩ := hH
    obtain ⟨hmA, hH⟩ := hH
    obtain ⟨hsB, hH⟩ := hH
    obtain ⟨hrB, hH⟩ := hH
    obtain ⟨hmB, hH⟩ := hH
    obtain ⟨hrt, hH⟩ := hH
    obtain ⟨hlz, hH⟩ := hH
    obtain ⟨rfl, rfl, rfl⟩ := hH
    obtain ⟨hc, hL6, hI5⟩ := id hgo
    have hL := gL6_8 hL6
    have hI := gG_up (b' := 7) hI5 (by decide)
    have hkb := gq_kN hmA hmB
    rcases id hM with hm0 | hm1
    · subst hm0
      refine gq_goi (wc := [(h0, .inr (8, [.ref a, .int (nI tz), .ref r0, .int fp, .int ld, .ref p0, .ref m0, .null, .ref oA, .ref oB, .ref ra, .ref cu])), (m0, .inr (3, [.ref ms, .int 0, .int (nI vk), .int vm, .ref md]))]) (wr := [(a, .inl (cB, 4000, .inl f)), (r0, .inr (6, [.ref d0, .int pv, .int fv, .int lp, .ref k4, .ref k5, .ref k6, .ref k7, .int (nI t), .int tl, .int vr, .int vl])), (k4, .inl (cI, 501, .inl (fun j => nI (Kd j)))), (k5, .inl (cI, 501, .inl sf)), (k6, .inl (cI, 501, .inl nf)), (k7, .inl (cI, 6, .inl (fun j => nI (Tk j)))), (p0, .inr (4, [.int (nI nc), .ref b1, .ref b2, .ref b3])), (b1, .inl (cI, 3, .inl (fun j => nI (L j)))), (b2, .inl (cI, 4, .inl cf)), (b3, .inl (cI, 192, .inl pf)), (d0, .inr (4, [.int (nI ncd), .ref e1, .ref e2, .ref e3])), (e1, .inl (cI, 3, .inl (fun j => nI (Ld j)))), (e2, .inl (cI, 4, .inl cfd)), (e3, .inl (cI, 192, .inl pfd)), (ms, .inr (7, [.ref mw])), (mw, .inl (cI, 34, .inl mf)), (md, .inl (cI, 38, .inl vd)), (oA, .inr (2, [.int 0, .int flA, .int (nI stA), .int (nI sA), .ref bA])), (bA, .inl (cI, rrA, .inl recA)), (oB, .inr (2, [.int 0, .int flB, .int (nI stB), .int (nI sB), .ref bB])), (bB, .inl (cI, rrB, .inl recB)), (ra, .inr (5, [.int 0, .int ran, .int rr2, .int rr3, .int rr4, .int (nI rt), .ref a6])), (a6, .inl (cI, 38, .inl rpa)), (cu, .inr (0, [.ref f0, .int (nI lz), .int can, .ref a3l, .int cts, .ref a5t])), (a3l, .inl (cI, 2, .inl lk)), (a5t, .inl (cI, 2, .inl td)), (f0, .inr (4, [.int fc, .ref g1, .ref g2, .ref g3])), (g1, .inl (cI, 3, .inl (fun j => nI (FL j)))), (g2, .inl (cI, 4, .inl fcf)), (g3, .inl (cI, 192, .inl fpf))]) (va_runV (As := [.int z1, .int z2, .int z3]) (rest := []) ⟨hx, hb, hml, hown, hts⟩ (x_store8z l D cI cB cZ h0 m0 (.ref a) (.int (nI tz)) (.ref r0) (.int fp) (.int ld) (.ref p0) (.null) (.ref oA) (.ref oB) (.ref ra) (.ref cu) (.ref ms) (.int (nI vk)) (.int vm) (.ref md) z1 z2 z3 _) (cwV 3 hts gP_law__x_store8z rfl rfl rfl (by decide +kernel) ⟨Nat.le_of_ble_eq_true rfl, Nat.le_of_ble_eq_true rfl⟩) (gx_preV (ci := 8) (q0 := 0) hK gN.nil (gq_Pl hP) (gq_Dl hD) [0, 15] rfl rfl rfl rfl) rfl rfl hl.1 rfl (lv_room (Nat.le_of_ble_eq_true rfl)) dL_law_441 ⟨(Nat.le_trans (Nat.add_le_add_right hkb.1 _) (Nat.le_of_ble_eq_true rfl)), (Nat.le_trans (Nat.add_le_add_right hkb.2 _) (Nat.le_of_ble_eq_true rfl))⟩) hP hD hS hA [0, 15] [1, 2, 3, 4, 5, 6, 7, 8, 9, 10, 11, 12, 13, 14, 16, 17, 18, 19, 20, 21, 22, 23, 24, 25, 26, 27, 28, 29, 30, 31] rfl rfl rfl (by decide) (fun r1 w1 H locs hp hP hD hS => ?_)
      obtain ⟨e_1, hp⟩ := hp
      obtain ⟨hx441_0, hp⟩ := hp
      obtain ⟨h9, hp⟩ := hp
      subst hp
      have h9 := h9.symm
      subst h9
      have hx441_0 : e_1 = (-1) := hx441_0
      have hP : va_P D vwCl ([(a, .inl (cB, 4000, .inl f)), (r0, .inr (6, [.ref d0, .int pv, .int fv, .int lp, .ref k4, .ref k5, .ref k6, .ref k7, .int (nI t), .int tl, .int vr, .int vl])), (k4, .inl (cI, 501, .inl (fun j => nI (Kd j)))), (k5, .inl (cI, 501, .inl sf)), (k6, .inl (cI, 501, .inl nf)), (k7, .inl (cI, 6, .inl (fun j => nI (Tk j)))), (p0, .inr (4, [.int (nI nc), .ref b1, .ref b2, .ref b3])), (b1, .inl (cI, 3, .inl (fun j => nI (L j)))), (b2, .inl (cI, 4, .inl cf)), (b3, .inl (cI, 192, .inl pf)), (d0, .inr (4, [.int (nI ncd), .ref e1, .ref e2, .ref e3])), (e1, .inl (cI, 3, .inl (fun j => nI (Ld j)))), (e2, .inl (cI, 4, .inl cfd)), (e3, .inl (cI, 192, .inl pfd)), (ms, .inr (7, [.ref mw])), (mw, .inl (cI, 34, .inl mf)), (md, .inl (cI, 38, .inl vd)), (oA, .inr (2, [.int 0, .int flA, .int (nI stA), .int (nI sA), .ref bA])), (bA, .inl (cI, rrA, .inl recA)), (oB, .inr (2, [.int 0, .int flB, .int (nI stB), .int (nI sB), .ref bB])), (bB, .inl (cI, rrB, .inl recB)), (ra, .inr (5, [.int 0, .int ran, .int rr2, .int rr3, .int rr4, .int (nI rt), .ref a6])), (a6, .inl (cI, 38, .inl rpa)), (cu, .inr (0, [.ref f0, .int (nI lz), .int can, .ref a3l, .int cts, .ref a5t])), (a3l, .inl (cI, 2, .inl lk)), (a5t, .inl (cI, 2, .inl td)), (f0, .inr (4, [.int fc, .ref g1, .ref g2, .ref g3])), (g1, .inl (cI, 3, .inl (fun j => nI (FL j)))), (g2, .inl (cI, 4, .inl fcf)), (g3, .inl (cI, 192, .inl fpf)), (h0, .inr (8, [.ref a, .int (nI tz), .ref r0, .int fp, .int ld, .ref p0, .ref m0, .null, .ref oA, .ref oB, .ref ra, .ref cu])), (m0, .inr (3, [.ref ms, .int 0, .int (nI vk), .int vm, .ref md]))] ++ w9) H := hP
      have hD : va_D A ([(a, .inl (cB, 4000, .inl f)), (r0, .inr (6, [.ref d0, .int pv, .int fv, .int lp, .ref k4, .ref k5, .ref k6, .ref k7, .int (nI t), .int tl, .int vr, .int vl])), (k4, .inl (cI, 501, .inl (fun j => nI (Kd j)))), (k5, .inl (cI, 501, .inl sf)), (k6, .inl (cI, 501, .inl nf)), (k7, .inl (cI, 6, .inl (fun j => nI (Tk j)))), (p0, .inr (4, [.int (nI nc), .ref b1, .ref b2, .ref b3])), (b1, .inl (cI, 3, .inl (fun j => nI (L j)))), (b2, .inl (cI, 4, .inl cf)), (b3, .inl (cI, 192, .inl pf)), (d0, .inr (4, [.int (nI ncd), .ref e1, .ref e2, .ref e3])), (e1, .inl (cI, 3, .inl (fun j => nI (Ld j)))), (e2, .inl (cI, 4, .inl cfd)), (e3, .inl (cI, 192, .inl pfd)), (ms, .inr (7, [.ref mw])), (mw, .inl (cI, 34, .inl mf)), (md, .inl (cI, 38, .inl vd)), (oA, .inr (2, [.int 0, .int flA, .int (nI stA), .int (nI sA), .ref bA])), (bA, .inl (cI, rrA, .inl recA)), (oB, .inr (2, [.int 0, .int flB, .int (nI stB), .int (nI sB), .ref bB])), (bB, .inl (cI, rrB, .inl recB)), (ra, .inr (5, [.int 0, .int ran, .int rr2, .int rr3, .int rr4, .int (nI rt), .ref a6])), (a6, .inl (cI, 38, .inl rpa)), (cu, .inr (0, [.ref f0, .int (nI lz), .int can, .ref a3l, .int cts, .ref a5t])), (a3l, .inl (cI, 2, .inl lk)), (a5t, .inl (cI, 2, .inl td)), (f0, .inr (4, [.int fc, .ref g1, .ref g2, .ref g3])), (g1, .inl (cI, 3, .inl (fun j => nI (FL j)))), (g2, .inl (cI, 4, .inl fcf)), (g3, .inl (cI, 192, .inl fpf)), (h0, .inr (8, [.ref a, .int (nI tz), .ref r0, .int fp, .int ld, .ref p0, .ref m0, .null, .ref oA, .ref oB, .ref ra, .ref cu])), (m0, .inr (3, [.ref ms, .int 0, .int (nI vk), .int vm, .ref md]))] ++ w9) := hD
      refine W.widen (k := 63 + (rrA / 17) + (rrB / 17)) (n := 584682 + (2 * rrA + 51000 * (rrA / 51000)) + (2 * rrB + 51000 * (rrB / 51000))) (Nat.le_refl _) (Nat.le_refl _) ?_
      have hP := gq_subP (X' := [(h0, .inr (8, [.ref a, .int (nI tz), .ref r0, .int fp, .int ld, .ref p0, .ref m0, .null, .ref oA, .ref oB, .ref ra, .ref cu])), (a, .inl (cB, 4000, .inl f)), (r0, .inr (6, [.ref d0, .int pv, .int fv, .int lp, .ref k4, .ref k5, .ref k6, .ref k7, .int (nI t), .int tl, .int vr, .int vl])), (k4, .inl (cI, 501, .inl (fun j => nI (Kd j)))), (k5, .inl (cI, 501, .inl sf)), (k6, .inl (cI, 501, .inl nf)), (k7, .inl (cI, 6, .inl (fun j => nI (Tk j)))), (p0, .inr (4, [.int (nI nc), .ref b1, .ref b2, .ref b3])), (b1, .inl (cI, 3, .inl (fun j => nI (L j)))), (b2, .inl (cI, 4, .inl cf)), (b3, .inl (cI, 192, .inl pf)), (d0, .inr (4, [.int (nI ncd), .ref e1, .ref e2, .ref e3])), (e1, .inl (cI, 3, .inl (fun j => nI (Ld j)))), (e2, .inl (cI, 4, .inl cfd)), (e3, .inl (cI, 192, .inl pfd)), (m0, .inr (3, [.ref ms, .int 0, .int (nI vk), .int vm, .ref md])), (ms, .inr (7, [.ref mw])), (mw, .inl (cI, 34, .inl mf)), (md, .inl (cI, 38, .inl vd)), (oA, .inr (2, [.int 0, .int flA, .int (nI stA), .int (nI sA), .ref bA])), (bA, .inl (cI, rrA, .inl recA)), (oB, .inr (2, [.int 0, .int flB, .int (nI stB), .int (nI sB), .ref bB])), (bB, .inl (cI, rrB, .inl recB)), (ra, .inr (5, [.int 0, .int ran, .int rr2, .int rr3, .int rr4, .int (nI rt), .ref a6])), (a6, .inl (cI, 38, .inl rpa)), (cu, .inr (0, [.ref f0, .int (nI lz), .int can, .ref a3l, .int cts, .ref a5t])), (a3l, .inl (cI, 2, .inl lk)), (a5t, .inl (cI, 2, .inl td)), (f0, .inr (4, [.int fc, .ref g1, .ref g2, .ref g3])), (g1, .inl (cI, 3, .inl (fun j => nI (FL j)))), (g2, .inl (cI, 4, .inl fcf)), (g3, .inl (cI, 192, .inl fpf))]) hP [30, 0, 1, 2, 3, 4, 5, 6, 7, 8, 9, 10, 11, 12, 13, 31, 14, 15, 16, 17, 18, 19, 20, 21, 22, 23, 24, 25, 26, 27, 28, 29] rfl
      have hD := gq_subD (X' := [(h0, .inr (8, [.ref a, .int (nI tz), .ref r0, .int fp, .int ld, .ref p0, .ref m0, .null, .ref oA, .ref oB, .ref ra, .ref cu])), (a, .inl (cB, 4000, .inl f)), (r0, .inr (6, [.ref d0, .int pv, .int fv, .int lp, .ref k4, .ref k5, .ref k6, .ref k7, .int (nI t), .int tl, .int vr, .int vl])), (k4, .inl (cI, 501, .inl (fun j => nI (Kd j)))), (k5, .inl (cI, 501, .inl sf)), (k6, .inl (cI, 501, .inl nf)), (k7, .inl (cI, 6, .inl (fun j => nI (Tk j)))), (p0, .inr (4, [.int (nI nc), .ref b1, .ref b2, .ref b3])), (b1, .inl (cI, 3, .inl (fun j => nI (L j)))), (b2, .inl (cI, 4, .inl cf)), (b3, .inl (cI, 192, .inl pf)), (d0, .inr (4, [.int (nI ncd), .ref e1, .ref e2, .ref e3])), (e1, .inl (cI, 3, .inl (fun j => nI (Ld j)))), (e2, .inl (cI, 4, .inl cfd)), (e3, .inl (cI, 192, .inl pfd)), (m0, .inr (3, [.ref ms, .int 0, .int (nI vk), .int vm, .ref md])), (ms, .inr (7, [.ref mw])), (mw, .inl (cI, 34, .inl mf)), (md, .inl (cI, 38, .inl vd)), (oA, .inr (2, [.int 0, .int flA, .int (nI stA), .int (nI sA), .ref bA])), (bA, .inl (cI, rrA, .inl recA)), (oB, .inr (2, [.int 0, .int flB, .int (nI stB), .int (nI sB), .ref bB])), (bB, .inl (cI, rrB, .inl recB)), (ra, .inr (5, [.int 0, .int ran, .int rr2, .int rr3, .int rr4, .int (nI rt), .ref a6])), (a6, .inl (cI, 38, .inl rpa)), (cu, .inr (0, [.ref f0, .int (nI lz), .int can, .ref a3l, .int cts, .ref a5t])), (a3l, .inl (cI, 2, .inl lk)), (a5t, .inl (cI, 2, .inl td)), (f0, .inr (4, [.int fc, .ref g1, .ref g2, .ref g3])), (g1, .inl (cI, 3, .inl (fun j => nI (FL j)))), (g2, .inl (cI, 4, .inl fcf)), (g3, .inl (cI, 192, .inl fpf))]) hD [30, 0, 1, 2, 3, 4, 5, 6, 7, 8, 9, 10, 11, 12, 13, 31, 14, 15, 16, 17, 18, 19, 20, 21, 22, 23, 24, 25, 26, 27, 28, 29] (by decide) rfl
      exact kk e_1 _ tz f fp ld nc L cf pf 0 vk vm vd _ _ H locs (Or.inl (HallN_mk cI cB cZ h0 tz f fp ld nc L cf pf 0 vk vm vd a r0 k4 k5 k6 k7 p0 b1 b2 b3 d0 e1 e2 e3 m0 ms mw md oA oB ra a6 cu f0 g1 g2 g3 a3l a5t pv fv lp t tl vr vl Kd sf nf Tk ncd Ld cfd pfd mf flA stA sA bA rrA recA flB stB sB bB rrB recB ran rr2 rr3 rr4 rt rpa lz can cts td lk fc FL fcf fpf htz hR hTk hgo hmk hM hsA hrA hmA hsB hrB hmB hrt hlz)) ⟨Or.inr ⟨hx441_0, fun a b c _ _ _ ho _ _ _ => ho.1 rfl⟩, rfl, rfl, rfl, rfl, rfl, rfl, rfl, rfl, rfl, rfl, rfl, rfl⟩ hP hD hS
    · have hW : gOkW mf := by rw [hm1.2]; exact hm1.1.2 vk (Nat.le_refl _)
      refine gq_goi (wc := [(h0, .inr (8, [.ref a, .int (nI tz), .ref r0, .int fp, .int ld, .ref p0, .ref m0, .null, .ref oA, .ref oB, .ref ra, .ref cu])), (m0, .inr (3, [.ref ms, .int vst, .int (nI vk), .int vm, .ref md])), (ms, .inr (7, [.ref mw])), (mw, .inl (cI, 34, .inl mf)), (p0, .inr (4, [.int (nI nc), .ref b1, .ref b2, .ref b3]))]) (wr := [(a, .inl (cB, 4000, .inl f)), (r0, .inr (6, [.ref d0, .int pv, .int fv, .int lp, .ref k4, .ref k5, .ref k6, .ref k7, .int (nI t), .int tl, .int vr, .int vl])), (k4, .inl (cI, 501, .inl (fun j => nI (Kd j)))), (k5, .inl (cI, 501, .inl sf)), (k6, .inl (cI, 501, .inl nf)), (k7, .inl (cI, 6, .inl (fun j => nI (Tk j)))), (b1, .inl (cI, 3, .inl (fun j => nI (L j)))), (b2, .inl (cI, 4, .inl cf)), (b3, .inl (cI, 192, .inl pf)), (d0, .inr (4, [.int (nI ncd), .ref e1, .ref e2, .ref e3])), (e1, .inl (cI, 3, .inl (fun j => nI (Ld j)))), (e2, .inl (cI, 4, .inl cfd)), (e3, .inl (cI, 192, .inl pfd)), (md, .inl (cI, 38, .inl vd)), (oA, .inr (2, [.int 0, .int flA, .int (nI stA), .int (nI sA), .ref bA])), (bA, .inl (cI, rrA, .inl recA)), (oB, .inr (2, [.int 0, .int flB, .int (nI stB), .int (nI sB), .ref bB])), (bB, .inl (cI, rrB, .inl recB)), (ra, .inr (5, [.int 0, .int ran, .int rr2, .int rr3, .int rr4, .int (nI rt), .ref a6])), (a6, .inl (cI, 38, .inl rpa)), (cu, .inr (0, [.ref f0, .int (nI lz), .int can, .ref a3l, .int cts, .ref a5t])), (a3l, .inl (cI, 2, .inl lk)), (a5t, .inl (cI, 2, .inl td)), (f0, .inr (4, [.int fc, .ref g1, .ref g2, .ref g3])), (g1, .inl (cI, 3, .inl (fun j => nI (FL j)))), (g2, .inl (cI, 4, .inl fcf)), (g3, .inl (cI, 192, .inl fpf))]) (va_runV (As := [.int z1, .int z2, .int z3]) (rest := []) ⟨hx, hb, hml, hown, hts⟩ (x_store8 l D cI cB cZ h0 ld (.ref a) (.int (nI tz)) (.ref r0) (.int fp) (.null) (.ref oA) (.ref oB) (.ref ra) (.ref cu) m0 ms mw vst (.int (nI vk)) (.int vm) (.ref md) mf p0 nc (.ref b1) (.ref b2) (.ref b3) z1 z2 z3 hc hW _) (cwV 3 hts gP_law__x_store8 rfl rfl rfl (by decide +kernel) ⟨Nat.le_of_ble_eq_true rfl, Nat.le_of_ble_eq_true rfl⟩) (gx_preV (ci := 8) (q0 := 0) hK gN.nil (gq_Pl hP) (gq_Dl hD) [0, 15, 16, 17, 7] rfl rfl rfl rfl) rfl rfl hl.1 rfl (lv_room (Nat.le_of_ble_eq_true rfl)) dL_law_441 ⟨(Nat.le_trans (Nat.add_le_add_right hkb.1 _) (Nat.le_of_ble_eq_true rfl)), (Nat.le_trans (Nat.add_le_add_right hkb.2 _) (Nat.le_of_ble_eq_true rfl))⟩) hP hD hS hA [0, 15, 16, 17, 7] [1, 2, 3, 4, 5, 6, 8, 9, 10, 11, 12, 13, 14, 18, 19, 20, 21, 22, 23, 24, 25, 26, 27, 28, 29, 30, 31] rfl rfl rfl (by decide) (fun r1 w1 H locs hp hP hD hS => ?_)
      obtain ⟨e_2, hp⟩ := hp
      obtain ⟨hx441_0, hp⟩ := hp
      obtain ⟨h9, hp⟩ := hp
      subst hp
      have h9 := h9.symm
      subst h9
      have hx441_0 : rQ (fun a b c => ¬ vst = 0 ∧ ¬ ld = 0 ∧ a < nc ∧ b < gSz (mf (13 + a)) ∧ c < 2) (fun a b c => if c = 0 then nI (gCl (mf (13 + a)) b) else mf ((16 + (a * 6)) + b)) (-1) z1 z2 z3 e_2 := hx441_0
      have hP : va_P D vwCl ([(a, .inl (cB, 4000, .inl f)), (r0, .inr (6, [.ref d0, .int pv, .int fv, .int lp, .ref k4, .ref k5, .ref k6, .ref k7, .int (nI t), .int tl, .int vr, .int vl])), (k4, .inl (cI, 501, .inl (fun j => nI (Kd j)))), (k5, .inl (cI, 501, .inl sf)), (k6, .inl (cI, 501, .inl nf)), (k7, .inl (cI, 6, .inl (fun j => nI (Tk j)))), (b1, .inl (cI, 3, .inl (fun j => nI (L j)))), (b2, .inl (cI, 4, .inl cf)), (b3, .inl (cI, 192, .inl pf)), (d0, .inr (4, [.int (nI ncd), .ref e1, .ref e2, .ref e3])), (e1, .inl (cI, 3, .inl (fun j => nI (Ld j)))), (e2, .inl (cI, 4, .inl cfd)), (e3, .inl (cI, 192, .inl pfd)), (md, .inl (cI, 38, .inl vd)), (oA, .inr (2, [.int 0, .int flA, .int (nI stA), .int (nI sA), .ref bA])), (bA, .inl (cI, rrA, .inl recA)), (oB, .inr (2, [.int 0, .int flB, .int (nI stB), .int (nI sB), .ref bB])), (bB, .inl (cI, rrB, .inl recB)), (ra, .inr (5, [.int 0, .int ran, .int rr2, .int rr3, .int rr4, .int (nI rt), .ref a6])), (a6, .inl (cI, 38, .inl rpa)), (cu, .inr (0, [.ref f0, .int (nI lz), .int can, .ref a3l, .int cts, .ref a5t])), (a3l, .inl (cI, 2, .inl lk)), (a5t, .inl (cI, 2, .inl td)), (f0, .inr (4, [.int fc, .ref g1, .ref g2, .ref g3])), (g1, .inl (cI, 3, .inl (fun j => nI (FL j)))), (g2, .inl (cI, 4, .inl fcf)), (g3, .inl (cI, 192, .inl fpf)), (h0, .inr (8, [.ref a, .int (nI tz), .ref r0, .int fp, .int ld, .ref p0, .ref m0, .null, .ref oA, .ref oB, .ref ra, .ref cu])), (m0, .inr (3, [.ref ms, .int vst, .int (nI vk), .int vm, .ref md])), (ms, .inr (7, [.ref mw])), (mw, .inl (cI, 34, .inl mf)), (p0, .inr (4, [.int (nI nc), .ref b1, .ref b2, .ref b3]))] ++ w9) H := hP
      have hD : va_D A ([(a, .inl (cB, 4000, .inl f)), (r0, .inr (6, [.ref d0, .int pv, .int fv, .int lp, .ref k4, .ref k5, .ref k6, .ref k7, .int (nI t), .int tl, .int vr, .int vl])), (k4, .inl (cI, 501, .inl (fun j => nI (Kd j)))), (k5, .inl (cI, 501, .inl sf)), (k6, .inl (cI, 501, .inl nf)), (k7, .inl (cI, 6, .inl (fun j => nI (Tk j)))), (b1, .inl (cI, 3, .inl (fun j => nI (L j)))), (b2, .inl (cI, 4, .inl cf)), (b3, .inl (cI, 192, .inl pf)), (d0, .inr (4, [.int (nI ncd), .ref e1, .ref e2, .ref e3])), (e1, .inl (cI, 3, .inl (fun j => nI (Ld j)))), (e2, .inl (cI, 4, .inl cfd)), (e3, .inl (cI, 192, .inl pfd)), (md, .inl (cI, 38, .inl vd)), (oA, .inr (2, [.int 0, .int flA, .int (nI stA), .int (nI sA), .ref bA])), (bA, .inl (cI, rrA, .inl recA)), (oB, .inr (2, [.int 0, .int flB, .int (nI stB), .int (nI sB), .ref bB])), (bB, .inl (cI, rrB, .inl recB)), (ra, .inr (5, [.int 0, .int ran, .int rr2, .int rr3, .int rr4, .int (nI rt), .ref a6])), (a6, .inl (cI, 38, .inl rpa)), (cu, .inr (0, [.ref f0, .int (nI lz), .int can, .ref a3l, .int cts, .ref a5t])), (a3l, .inl (cI, 2, .inl lk)), (a5t, .inl (cI, 2, .inl td)), (f0, .inr (4, [.int fc, .ref g1, .ref g2, .ref g3])), (g1, .inl (cI, 3, .inl (fun j => nI (FL j)))), (g2, .inl (cI, 4, .inl fcf)), (g3, .inl (cI, 192, .inl fpf)), (h0, .inr (8, [.ref a, .int (nI tz), .ref r0, .int fp, .int ld, .ref p0, .ref m0, .null, .ref oA, .ref oB, .ref ra, .ref cu])), (m0, .inr (3, [.ref ms, .int vst, .int (nI vk), .int vm, .ref md])), (ms, .inr (7, [.ref mw])), (mw, .inl (cI, 34, .inl mf)), (p0, .inr (4, [.int (nI nc), .ref b1, .ref b2, .ref b3]))] ++ w9) := hD
      refine W.widen (k := 63 + (rrA / 17) + (rrB / 17)) (n := 584682 + (2 * rrA + 51000 * (rrA / 51000)) + (2 * rrB + 51000 * (rrB / 51000))) (Nat.le_refl _) (Nat.le_refl _) ?_
      have hP := gq_subP (X' := [(h0, .inr (8, [.ref a, .int (nI tz), .ref r0, .int fp, .int ld, .ref p0, .ref m0, .null, .ref oA, .ref oB, .ref ra, .ref cu])), (a, .inl (cB, 4000, .inl f)), (r0, .inr (6, [.ref d0, .int pv, .int fv, .int lp, .ref k4, .ref k5, .ref k6, .ref k7, .int (nI t), .int tl, .int vr, .int vl])), (k4, .inl (cI, 501, .inl (fun j => nI (Kd j)))), (k5, .inl (cI, 501, .inl sf)), (k6, .inl (cI, 501, .inl nf)), (k7, .inl (cI, 6, .inl (fun j => nI (Tk j)))), (p0, .inr (4, [.int (nI nc), .ref b1, .ref b2, .ref b3])), (b1, .inl (cI, 3, .inl (fun j => nI (L j)))), (b2, .inl (cI, 4, .inl cf)), (b3, .inl (cI, 192, .inl pf)), (d0, .inr (4, [.int (nI ncd), .ref e1, .ref e2, .ref e3])), (e1, .inl (cI, 3, .inl (fun j => nI (Ld j)))), (e2, .inl (cI, 4, .inl cfd)), (e3, .inl (cI, 192, .inl pfd)), (m0, .inr (3, [.ref ms, .int vst, .int (nI vk), .int vm, .ref md])), (ms, .inr (7, [.ref mw])), (mw, .inl (cI, 34, .inl mf)), (md, .inl (cI, 38, .inl vd)), (oA, .inr (2, [.int 0, .int flA, .int (nI stA), .int (nI sA), .ref bA])), (bA, .inl (cI, rrA, .inl recA)), (oB, .inr (2, [.int 0, .int flB, .int (nI stB), .int (nI sB), .ref bB])), (bB, .inl (cI, rrB, .inl recB)), (ra, .inr (5, [.int 0, .int ran, .int rr2, .int rr3, .int rr4, .int (nI rt), .ref a6])), (a6, .inl (cI, 38, .inl rpa)), (cu, .inr (0, [.ref f0, .int (nI lz), .int can, .ref a3l, .int cts, .ref a5t])), (a3l, .inl (cI, 2, .inl lk)), (a5t, .inl (cI, 2, .inl td)), (f0, .inr (4, [.int fc, .ref g1, .ref g2, .ref g3])), (g1, .inl (cI, 3, .inl (fun j => nI (FL j)))), (g2, .inl (cI, 4, .inl fcf)), (g3, .inl (cI, 192, .inl fpf))]) hP [27, 0, 1, 2, 3, 4, 5, 31, 6, 7, 8, 9, 10, 11, 12, 28, 29, 30, 13, 14, 15, 16, 17, 18, 19, 20, 21, 22, 23, 24, 25, 26] rfl
      have hD := gq_subD (X' := [(h0, .inr (8, [.ref a, .int (nI tz), .ref r0, .int fp, .int ld, .ref p0, .ref m0, .null, .ref oA, .ref oB, .ref ra, .ref cu])), (a, .inl (cB, 4000, .inl f)), (r0, .inr (6, [.ref d0, .int pv, .int fv, .int lp, .ref k4, .ref k5, .ref k6, .ref k7, .int (nI t), .int tl, .int vr, .int vl])), (k4, .inl (cI, 501, .inl (fun j => nI (Kd j)))), (k5, .inl (cI, 501, .inl sf)), (k6, .inl (cI, 501, .inl nf)), (k7, .inl (cI, 6, .inl (fun j => nI (Tk j)))), (p0, .inr (4, [.int (nI nc), .ref b1, .ref b2, .ref b3])), (b1, .inl (cI, 3, .inl (fun j => nI (L j)))), (b2, .inl (cI, 4, .inl cf)), (b3, .inl (cI, 192, .inl pf)), (d0, .inr (4, [.int (nI ncd), .ref e1, .ref e2, .ref e3])), (e1, .inl (cI, 3, .inl (fun j => nI (Ld j)))), (e2, .inl (cI, 4, .inl cfd)), (e3, .inl (cI, 192, .inl pfd)), (m0, .inr (3, [.ref ms, .int vst, .int (nI vk), .int vm, .ref md])), (ms, .inr (7, [.ref mw])), (mw, .inl (cI, 34, .inl mf)), (md, .inl (cI, 38, .inl vd)), (oA, .inr (2, [.int 0, .int flA, .int (nI stA), .int (nI sA), .ref bA])), (bA, .inl (cI, rrA, .inl recA)), (oB, .inr (2, [.int 0, .int flB, .int (nI stB), .int (nI sB), .ref bB])), (bB, .inl (cI, rrB, .inl recB)), (ra, .inr (5, [.int 0, .int ran, .int rr2, .int rr3, .int rr4, .int (nI rt), .ref a6])), (a6, .inl (cI, 38, .inl rpa)), (cu, .inr (0, [.ref f0, .int (nI lz), .int can, .ref a3l, .int cts, .ref a5t])), (a3l, .inl (cI, 2, .inl lk)), (a5t, .inl (cI, 2, .inl td)), (f0, .inr (4, [.int fc, .ref g1, .ref g2, .ref g3])), (g1, .inl (cI, 3, .inl (fun j => nI (FL j)))), (g2, .inl (cI, 4, .inl fcf)), (g3, .inl (cI, 192, .inl fpf))]) hD [27, 0, 1, 2, 3, 4, 5, 31, 6, 7, 8, 9, 10, 11, 12, 28, 29, 30, 13, 14, 15, 16, 17, 18, 19, 20, 21, 22, 23, 24, 25, 26] (by decide) rfl
      exact kk e_2 _ tz f fp ld nc L cf pf vst vk vm vd _ _ H locs (Or.inl (HallN_mk cI cB cZ h0 tz f fp ld nc L cf pf vst vk vm vd a r0 k4 k5 k6 k7 p0 b1 b2 b3 d0 e1 e2 e3 m0 ms mw md oA oB ra a6 cu f0 g1 g2 g3 a3l a5t pv fv lp t tl vr vl Kd sf nf Tk ncd Ld cfd pfd mf flA stA sA bA rrA recA flB stB sB bB rrB recB ran rr2 rr3 rr4 rt rpa lz can cts td lk fc FL fcf fpf htz hR hTk hgo hmk hM hsA hrA hmA hsB hrB hmB hrt hlz)) ⟨rq_m (ok := fun g a b c => ¬ vst = 0 ∧ ¬ ld = 0 ∧ a < nc ∧ b < gSz (g (13 + a)) ∧ c < 2) (val := fun g a b c => if c = 0 then nI (gCl (g (13 + a)) b) else g ((16 + (a * 6)) + b)) hM (fun _ _ _ _ h => h.1) hx441_0, rfl, rfl, rfl, rfl, rfl, rfl, rfl, rfl, rfl, rfl, rfl, rfl⟩ hP hD hS
  · unfold HallE at hH
    obtain ⟨a, hH⟩ := hH
    obtain ⟨r0, hH⟩ := hH
    obtain ⟨k4, hH⟩ := hH
    obtain ⟨k5, hH⟩ := hH
    obtain ⟨k6, hH⟩ := hH
    obtain ⟨k7, hH⟩ := hH
    obtain ⟨p0, hH⟩ := hH
    obtain ⟨b1, hH⟩ := hH
    obtain ⟨b2, hH⟩ := hH
    obtain ⟨b3, hH⟩ := hH
    obtain ⟨d0, hH⟩ := hH
    obtain ⟨e1, hH⟩ := hH
    obtain ⟨e2, hH⟩ := hH
    obtain ⟨e3, hH⟩ := hH
    obtain ⟨m0, hH⟩ := hH
    obtain ⟨ms, hH⟩ := hH
    obtain ⟨mw, hH⟩ := hH
    obtain ⟨md, hH⟩ := hH
    obtain ⟨oA, hH⟩ := hH
    obtain ⟨oB, hH⟩ := hH
    obtain ⟨ra, hH⟩ := hH
    obtain ⟨a6, hH⟩ := hH
    obtain ⟨cu, hH⟩ := hH
    obtain ⟨f0, hH⟩ := hH
    obtain ⟨g1, hH⟩ := hH
    obtain ⟨g2, hH⟩ := hH
    obtain ⟨g3, hH⟩ := hH
    obtain ⟨a3l, hH⟩ := hH
    obtain ⟨a5t, hH⟩ := hH
    obtain ⟨pv, hH⟩ := hH
    obtain ⟨fv, hH⟩ := hH
    obtain ⟨lp, hH⟩ := hH
    obtain ⟨t, hH⟩ := hH
    obtain ⟨tl, hH⟩ := hH
    obtain ⟨vr, hH⟩ := hH
    obtain ⟨vl, hH⟩ := hH
    obtain ⟨Kd, hH⟩ := hH
    obtain ⟨sf, hH⟩ := hH
    obtain ⟨nf, hH⟩ := hH
    obtain ⟨Tk, hH⟩ := hH
    obtain ⟨ncd, hH⟩ := hH
    obtain ⟨Ld, hH⟩ := hH
    obtain ⟨cfd, hH⟩ := hH
    obtain ⟨pfd, hH⟩ := hH
    obtain ⟨mf, hH⟩ := hH
    obtain ⟨knA, hH⟩ := hH
    obtain ⟨flA, hH⟩ := hH
    obtain ⟨stA, hH⟩ := hH
    obtain ⟨sA, hH⟩ := hH
    obtain ⟨bA, hH⟩ := hH
    obtain ⟨rrA, hH⟩ := hH
    obtain ⟨recA, hH⟩ := hH
    obtain ⟨knB, hH⟩ := hH
    obtain ⟨flB, hH⟩ := hH
    obtain ⟨stB, hH⟩ := hH
    obtain ⟨sB, hH⟩ := hH
    obtain ⟨bB, hH⟩ := hH
    obtain ⟨rrB, hH⟩ := hH
    obtain ⟨recB, hH⟩ := hH
    obtain ⟨rkn, hH⟩ := hH
    obtain ⟨ran, hH⟩ := hH
    obtain ⟨rr2, hH⟩ := hH
    obtain ⟨rr3, hH⟩ := hH
    obtain ⟨rr4, hH⟩ := hH
    obtain ⟨rt, hH⟩ := hH
    obtain ⟨rpa, hH⟩ := hH
    obtain ⟨lz, hH⟩ := hH
    obtain ⟨can, hH⟩ := hH
    obtain ⟨cts, hH⟩ := hH
    obtain ⟨td, hH⟩ := hH
    obtain ⟨lk, hH⟩ := hH
    obtain ⟨fc, hH⟩ := hH
    obtain ⟨FL, hH⟩ := hH
    obtain ⟨fcf, hH⟩ := hH
    obtain ⟨fpf, hH⟩ := hH
    obtain ⟨x0, hH⟩ := hH
    obtain ⟨a2, hH⟩ := hH
    obtain ⟨s4, hH⟩ := hH
    obtain ⟨w4, hH⟩ := hH
    obtain ⟨s5, hH⟩ := hH
    obtain ⟨w5, hH⟩ := hH
    obtain ⟨a8, hH⟩ := hH
    obtain ⟨a9, hH⟩ := hH
    obtain ⟨a3, hH⟩ := hH
    obtain ⟨i0, hH⟩ := hH
    obtain ⟨i1, hH⟩ := hH
    obtain ⟨i6, hH⟩ := hH
    obtain ⟨a7, hH⟩ := hH
    obtain ⟨rl, hH⟩ := hH
    obtain ⟨rf, hH⟩ := hH
    obtain ⟨f4, hH⟩ := hH
    obtain ⟨f5, hH⟩ := hH
    obtain ⟨ef, hH⟩ := hH
    obtain ⟨sl, hH⟩ := hH
    obtain ⟨cm, hH⟩ := hH
    obtain ⟨pp, hH⟩ := hH
    obtain ⟨htz, hH⟩ := hH
    obtain ⟨hR, hH⟩ := hH
    obtain ⟨hTk, hH⟩ := hH
    obtain ⟨hgo, hH⟩ := hH
    obtain ⟨hmk, hH⟩ := hH
    obtain ⟨hM, hH⟩ := hH
    obtain ⟨hsA, hH⟩ := hH
    obtain ⟨hrA, hH⟩ := hH
    obtain ⟨hmA, hH⟩ := hH
    obtain ⟨hsB, hH⟩ := hH
    obtain ⟨hrB, hH⟩ := hH
    obtain ⟨hmB, hH⟩ := hH
    obtain ⟨hrt, hH⟩ := hH
    obtain ⟨hlz, hH⟩ := hH
    obtain ⟨hrl, hH⟩ := hH
    obtain ⟨hrm, hH⟩ := hH
    obtain ⟨rfl, rfl, rfl⟩ := hH
    obtain ⟨hc, hL6, hI5⟩ := id hgo
    have hL := gL6_8 hL6
    have hI := gG_up (b' := 7) hI5 (by decide)
    have hkb := gq_k hmA hmB hrm.2
    rcases id hM with hm0 | hm1
    · subst hm0
      refine gq_goi (wc := [(h0, .inr (8, [.ref a, .int (nI tz), .ref r0, .int fp, .int ld, .ref p0, .ref m0, .ref x0, .ref oA, .ref oB, .ref ra, .ref cu])), (m0, .inr (3, [.ref ms, .int 0, .int (nI vk), .int vm, .ref md]))]) (wr := [(a, .inl (cB, 4000, .inl f)), (r0, .inr (6, [.ref d0, .int pv, .int fv, .int lp, .ref k4, .ref k5, .ref k6, .ref k7, .int (nI t), .int tl, .int vr, .int vl])), (k4, .inl (cI, 501, .inl (fun j => nI (Kd j)))), (k5, .inl (cI, 501, .inl sf)), (k6, .inl (cI, 501, .inl nf)), (k7, .inl (cI, 6, .inl (fun j => nI (Tk j)))), (p0, .inr (4, [.int (nI nc), .ref b1, .ref b2, .ref b3])), (b1, .inl (cI, 3, .inl (fun j => nI (L j)))), (b2, .inl (cI, 4, .inl cf)), (b3, .inl (cI, 192, .inl pf)), (d0, .inr (4, [.int (nI ncd), .ref e1, .ref e2, .ref e3])), (e1, .inl (cI, 3, .inl (fun j => nI (Ld j)))), (e2, .inl (cI, 4, .inl cfd)), (e3, .inl (cI, 192, .inl pfd)), (ms, .inr (7, [.ref mw])), (mw, .inl (cI, 34, .inl mf)), (md, .inl (cI, 38, .inl vd)), (oA, .inr (2, [.int knA, .int flA, .int (nI stA), .int (nI sA), .ref bA])), (bA, .inl (cI, rrA, .inl recA)), (oB, .inr (2, [.int knB, .int flB, .int (nI stB), .int (nI sB), .ref bB])), (bB, .inl (cI, rrB, .inl recB)), (ra, .inr (5, [.int rkn, .int ran, .int rr2, .int rr3, .int rr4, .int (nI rt), .ref a6])), (a6, .inl (cI, 38, .inl rpa)), (cu, .inr (0, [.ref f0, .int (nI lz), .int can, .ref a3l, .int cts, .ref a5t])), (a3l, .inl (cI, 2, .inl lk)), (a5t, .inl (cI, 2, .inl td)), (f0, .inr (4, [.int fc, .ref g1, .ref g2, .ref g3])), (g1, .inl (cI, 3, .inl (fun j => nI (FL j)))), (g2, .inl (cI, 4, .inl fcf)), (g3, .inl (cI, 192, .inl fpf)), (x0, .inr (1, [.int i0, .int i1, .ref a2, .ref a3, .ref s4, .ref s5, .int i6, .ref a7, .ref a8, .ref a9])), (s4, .inr (7, [.ref w4])), (w4, .inl (cI, 34, .inl f4)), (s5, .inr (7, [.ref w5])), (w5, .inl (cI, 34, .inl f5)), (a2, .inl (cI, 3000, .inl ef)), (a7, .inl (cI, rl, .inl rf)), (a8, .inl (cI, 4096, .inl sl)), (a9, .inl (cI, 3000, .inl cm)), (a3, .inl (cI, 38, .inl pp))]) (va_runV (As := [.int z1, .int z2, .int z3]) (rest := []) ⟨hx, hb, hml, hown, hts⟩ (x_store8z l D cI cB cZ h0 m0 (.ref a) (.int (nI tz)) (.ref r0) (.int fp) (.int ld) (.ref p0) (.ref x0) (.ref oA) (.ref oB) (.ref ra) (.ref cu) (.ref ms) (.int (nI vk)) (.int vm) (.ref md) z1 z2 z3 _) (cwV 3 hts gP_law__x_store8z rfl rfl rfl (by decide +kernel) ⟨Nat.le_of_ble_eq_true rfl, Nat.le_of_ble_eq_true rfl⟩) (gx_preV (ci := 8) (q0 := 0) hK gN.nil (gq_Pl hP) (gq_Dl hD) [0, 15] rfl rfl rfl rfl) rfl rfl hl.1 rfl (lv_room (Nat.le_of_ble_eq_true rfl)) dL_law_441 ⟨(Nat.le_trans (Nat.add_le_add_right hkb.1 _) (Nat.le_of_ble_eq_true rfl)), (Nat.le_trans (Nat.add_le_add_right hkb.2 _) (Nat.le_of_ble_eq_true rfl))⟩) hP hD hS hA [0, 15] [1, 2, 3, 4, 5, 6, 7, 8, 9, 10, 11, 12, 13, 14, 16, 17, 18, 19, 20, 21, 22, 23, 24, 25, 26, 27, 28, 29, 30, 31, 32, 33, 34, 35, 36, 37, 38, 39, 40, 41] rfl rfl rfl (by decide) (fun r1 w1 H locs hp hP hD hS => ?_)
      obtain ⟨e_1, hp⟩ := hp
      obtain ⟨hx441_0, hp⟩ := hp
      obtain ⟨h9, hp⟩ := hp
      subst hp
      have h9 := h9.symm
      subst h9
      have hx441_0 : e_1 = (-1) := hx441_0
      have hP : va_P D vwCl ([(a, .inl (cB, 4000, .inl f)), (r0, .inr (6, [.ref d0, .int pv, .int fv, .int lp, .ref k4, .ref k5, .ref k6, .ref k7, .int (nI t), .int tl, .int vr, .int vl])), (k4, .inl (cI, 501, .inl (fun j => nI (Kd j)))), (k5, .inl (cI, 501, .inl sf)), (k6, .inl (cI, 501, .inl nf)), (k7, .inl (cI, 6, .inl (fun j => nI (Tk j)))), (p0, .inr (4, [.int (nI nc), .ref b1, .ref b2, .ref b3])), (b1, .inl (cI, 3, .inl (fun j => nI (L j)))), (b2, .inl (cI, 4, .inl cf)), (b3, .inl (cI, 192, .inl pf)), (d0, .inr (4, [.int (nI ncd), .ref e1, .ref e2, .ref e3])), (e1, .inl (cI, 3, .inl (fun j => nI (Ld j)))), (e2, .inl (cI, 4, .inl cfd)), (e3, .inl (cI, 192, .inl pfd)), (ms, .inr (7, [.ref mw])), (mw, .inl (cI, 34, .inl mf)), (md, .inl (cI, 38, .inl vd)), (oA, .inr (2, [.int knA, .int flA, .int (nI stA), .int (nI sA), .ref bA])), (bA, .inl (cI, rrA, .inl recA)), (oB, .inr (2, [.int knB, .int flB, .int (nI stB), .int (nI sB), .ref bB])), (bB, .inl (cI, rrB, .inl recB)), (ra, .inr (5, [.int rkn, .int ran, .int rr2, .int rr3, .int rr4, .int (nI rt), .ref a6])), (a6, .inl (cI, 38, .inl rpa)), (cu, .inr (0, [.ref f0, .int (nI lz), .int can, .ref a3l, .int cts, .ref a5t])), (a3l, .inl (cI, 2, .inl lk)), (a5t, .inl (cI, 2, .inl td)), (f0, .inr (4, [.int fc, .ref g1, .ref g2, .ref g3])), (g1, .inl (cI, 3, .inl (fun j => nI (FL j)))), (g2, .inl (cI, 4, .inl fcf)), (g3, .inl (cI, 192, .inl fpf)), (x0, .inr (1, [.int i0, .int i1, .ref a2, .ref a3, .ref s4, .ref s5, .int i6, .ref a7, .ref a8, .ref a9])), (s4, .inr (7, [.ref w4])), (w4, .inl (cI, 34, .inl f4)), (s5, .inr (7, [.ref w5])), (w5, .inl (cI, 34, .inl f5)), (a2, .inl (cI, 3000, .inl ef)), (a7, .inl (cI, rl, .inl rf)), (a8, .inl (cI, 4096, .inl sl)), (a9, .inl (cI, 3000, .inl cm)), (a3, .inl (cI, 38, .inl pp)), (h0, .inr (8, [.ref a, .int (nI tz), .ref r0, .int fp, .int ld, .ref p0, .ref m0, .ref x0, .ref oA, .ref oB, .ref ra, .ref cu])), (m0, .inr (3, [.ref ms, .int 0, .int (nI vk), .int vm, .ref md]))] ++ w9) H := hP
      have hD : va_D A ([(a, .inl (cB, 4000, .inl f)), (r0, .inr (6, [.ref d0, .int pv, .int fv, .int lp, .ref k4, .ref k5, .ref k6, .ref k7, .int (nI t), .int tl, .int vr, .int vl])), (k4, .inl (cI, 501, .inl (fun j => nI (Kd j)))), (k5, .inl (cI, 501, .inl sf)), (k6, .inl (cI, 501, .inl nf)), (k7, .inl (cI, 6, .inl (fun j => nI (Tk j)))), (p0, .inr (4, [.int (nI nc), .ref b1, .ref b2, .ref b3])), (b1, .inl (cI, 3, .inl (fun j => nI (L j)))), (b2, .inl (cI, 4, .inl cf)), (b3, .inl (cI, 192, .inl pf)), (d0, .inr (4, [.int (nI ncd), .ref e1, .ref e2, .ref e3])), (e1, .inl (cI, 3, .inl (fun j => nI (Ld j)))), (e2, .inl (cI, 4, .inl cfd)), (e3, .inl (cI, 192, .inl pfd)), (ms, .inr (7, [.ref mw])), (mw, .inl (cI, 34, .inl mf)), (md, .inl (cI, 38, .inl vd)), (oA, .inr (2, [.int knA, .int flA, .int (nI stA), .int (nI sA), .ref bA])), (bA, .inl (cI, rrA, .inl recA)), (oB, .inr (2, [.int knB, .int flB, .int (nI stB), .int (nI sB), .ref bB])), (bB, .inl (cI, rrB, .inl recB)), (ra, .inr (5, [.int rkn, .int ran, .int rr2, .int rr3, .int rr4, .int (nI rt), .ref a6])), (a6, .inl (cI, 38, .inl rpa)), (cu, .inr (0, [.ref f0, .int (nI lz), .int can, .ref a3l, .int cts, .ref a5t])), (a3l, .inl (cI, 2, .inl lk)), (a5t, .inl (cI, 2, .inl td)), (f0, .inr (4, [.int fc, .ref g1, .ref g2, .ref g3])), (g1, .inl (cI, 3, .inl (fun j => nI (FL j)))), (g2, .inl (cI, 4, .inl fcf)), (g3, .inl (cI, 192, .inl fpf)), (x0, .inr (1, [.int i0, .int i1, .ref a2, .ref a3, .ref s4, .ref s5, .int i6, .ref a7, .ref a8, .ref a9])), (s4, .inr (7, [.ref w4])), (w4, .inl (cI, 34, .inl f4)), (s5, .inr (7, [.ref w5])), (w5, .inl (cI, 34, .inl f5)), (a2, .inl (cI, 3000, .inl ef)), (a7, .inl (cI, rl, .inl rf)), (a8, .inl (cI, 4096, .inl sl)), (a9, .inl (cI, 3000, .inl cm)), (a3, .inl (cI, 38, .inl pp)), (h0, .inr (8, [.ref a, .int (nI tz), .ref r0, .int fp, .int ld, .ref p0, .ref m0, .ref x0, .ref oA, .ref oB, .ref ra, .ref cu])), (m0, .inr (3, [.ref ms, .int 0, .int (nI vk), .int vm, .ref md]))] ++ w9) := hD
      refine W.widen (k := 63 + (rrA / 17) + (rrB / 17) + 10 + ((rl - 1600) / 4800)) (n := 584682 + (2 * rrA + 51000 * (rrA / 51000)) + (2 * rrB + 51000 * (rrB / 51000)) + 11814 + (2 * (rl - 1600))) (Nat.le_refl _) (Nat.le_refl _) ?_
      have hP := gq_subP (X' := [(h0, .inr (8, [.ref a, .int (nI tz), .ref r0, .int fp, .int ld, .ref p0, .ref m0, .ref x0, .ref oA, .ref oB, .ref ra, .ref cu])), (a, .inl (cB, 4000, .inl f)), (r0, .inr (6, [.ref d0, .int pv, .int fv, .int lp, .ref k4, .ref k5, .ref k6, .ref k7, .int (nI t), .int tl, .int vr, .int vl])), (k4, .inl (cI, 501, .inl (fun j => nI (Kd j)))), (k5, .inl (cI, 501, .inl sf)), (k6, .inl (cI, 501, .inl nf)), (k7, .inl (cI, 6, .inl (fun j => nI (Tk j)))), (p0, .inr (4, [.int (nI nc), .ref b1, .ref b2, .ref b3])), (b1, .inl (cI, 3, .inl (fun j => nI (L j)))), (b2, .inl (cI, 4, .inl cf)), (b3, .inl (cI, 192, .inl pf)), (d0, .inr (4, [.int (nI ncd), .ref e1, .ref e2, .ref e3])), (e1, .inl (cI, 3, .inl (fun j => nI (Ld j)))), (e2, .inl (cI, 4, .inl cfd)), (e3, .inl (cI, 192, .inl pfd)), (m0, .inr (3, [.ref ms, .int 0, .int (nI vk), .int vm, .ref md])), (ms, .inr (7, [.ref mw])), (mw, .inl (cI, 34, .inl mf)), (md, .inl (cI, 38, .inl vd)), (oA, .inr (2, [.int knA, .int flA, .int (nI stA), .int (nI sA), .ref bA])), (bA, .inl (cI, rrA, .inl recA)), (oB, .inr (2, [.int knB, .int flB, .int (nI stB), .int (nI sB), .ref bB])), (bB, .inl (cI, rrB, .inl recB)), (ra, .inr (5, [.int rkn, .int ran, .int rr2, .int rr3, .int rr4, .int (nI rt), .ref a6])), (a6, .inl (cI, 38, .inl rpa)), (cu, .inr (0, [.ref f0, .int (nI lz), .int can, .ref a3l, .int cts, .ref a5t])), (a3l, .inl (cI, 2, .inl lk)), (a5t, .inl (cI, 2, .inl td)), (f0, .inr (4, [.int fc, .ref g1, .ref g2, .ref g3])), (g1, .inl (cI, 3, .inl (fun j => nI (FL j)))), (g2, .inl (cI, 4, .inl fcf)), (g3, .inl (cI, 192, .inl fpf)), (x0, .inr (1, [.int i0, .int i1, .ref a2, .ref a3, .ref s4, .ref s5, .int i6, .ref a7, .ref a8, .ref a9])), (s4, .inr (7, [.ref w4])), (w4, .inl (cI, 34, .inl f4)), (s5, .inr (7, [.ref w5])), (w5, .inl (cI, 34, .inl f5)), (a2, .inl (cI, 3000, .inl ef)), (a7, .inl (cI, rl, .inl rf)), (a8, .inl (cI, 4096, .inl sl)), (a9, .inl (cI, 3000, .inl cm)), (a3, .inl (cI, 38, .inl pp))]) hP [40, 0, 1, 2, 3, 4, 5, 6, 7, 8, 9, 10, 11, 12, 13, 41, 14, 15, 16, 17, 18, 19, 20, 21, 22, 23, 24, 25, 26, 27, 28, 29, 30, 31, 32, 33, 34, 35, 36, 37, 38, 39] rfl
      have hD := gq_subD (X' := [(h0, .inr (8, [.ref a, .int (nI tz), .ref r0, .int fp, .int ld, .ref p0, .ref m0, .ref x0, .ref oA, .ref oB, .ref ra, .ref cu])), (a, .inl (cB, 4000, .inl f)), (r0, .inr (6, [.ref d0, .int pv, .int fv, .int lp, .ref k4, .ref k5, .ref k6, .ref k7, .int (nI t), .int tl, .int vr, .int vl])), (k4, .inl (cI, 501, .inl (fun j => nI (Kd j)))), (k5, .inl (cI, 501, .inl sf)), (k6, .inl (cI, 501, .inl nf)), (k7, .inl (cI, 6, .inl (fun j => nI (Tk j)))), (p0, .inr (4, [.int (nI nc), .ref b1, .ref b2, .ref b3])), (b1, .inl (cI, 3, .inl (fun j => nI (L j)))), (b2, .inl (cI, 4, .inl cf)), (b3, .inl (cI, 192, .inl pf)), (d0, .inr (4, [.int (nI ncd), .ref e1, .ref e2, .ref e3])), (e1, .inl (cI, 3, .inl (fun j => nI (Ld j)))), (e2, .inl (cI, 4, .inl cfd)), (e3, .inl (cI, 192, .inl pfd)), (m0, .inr (3, [.ref ms, .int 0, .int (nI vk), .int vm, .ref md])), (ms, .inr (7, [.ref mw])), (mw, .inl (cI, 34, .inl mf)), (md, .inl (cI, 38, .inl vd)), (oA, .inr (2, [.int knA, .int flA, .int (nI stA), .int (nI sA), .ref bA])), (bA, .inl (cI, rrA, .inl recA)), (oB, .inr (2, [.int knB, .int flB, .int (nI stB), .int (nI sB), .ref bB])), (bB, .inl (cI, rrB, .inl recB)), (ra, .inr (5, [.int rkn, .int ran, .int rr2, .int rr3, .int rr4, .int (nI rt), .ref a6])), (a6, .inl (cI, 38, .inl rpa)), (cu, .inr (0, [.ref f0, .int (nI lz), .int can, .ref a3l, .int cts, .ref a5t])), (a3l, .inl (cI, 2, .inl lk)), (a5t, .inl (cI, 2, .inl td)), (f0, .inr (4, [.int fc, .ref g1, .ref g2, .ref g3])), (g1, .inl (cI, 3, .inl (fun j => nI (FL j)))), (g2, .inl (cI, 4, .inl fcf)), (g3, .inl (cI, 192, .inl fpf)), (x0, .inr (1, [.int i0, .int i1, .ref a2, .ref a3, .ref s4, .ref s5, .int i6, .ref a7, .ref a8, .ref a9])), (s4, .inr (7, [.ref w4])), (w4, .inl (cI, 34, .inl f4)), (s5, .inr (7, [.ref w5])), (w5, .inl (cI, 34, .inl f5)), (a2, .inl (cI, 3000, .inl ef)), (a7, .inl (cI, rl, .inl rf)), (a8, .inl (cI, 4096, .inl sl)), (a9, .inl (cI, 3000, .inl cm)), (a3, .inl (cI, 38, .inl pp))]) hD [40, 0, 1, 2, 3, 4, 5, 6, 7, 8, 9, 10, 11, 12, 13, 41, 14, 15, 16, 17, 18, 19, 20, 21, 22, 23, 24, 25, 26, 27, 28, 29, 30, 31, 32, 33, 34, 35, 36, 37, 38, 39] (by decide) rfl
      exact kk e_1 _ tz f fp ld nc L cf pf 0 vk vm vd _ _ H locs (Or.inr (HallE_mk cI cB cZ h0 tz f fp ld nc L cf pf 0 vk vm vd a r0 k4 k5 k6 k7 p0 b1 b2 b3 d0 e1 e2 e3 m0 ms mw md oA oB ra a6 cu f0 g1 g2 g3 a3l a5t pv fv lp t tl vr vl Kd sf nf Tk ncd Ld cfd pfd mf knA flA stA sA bA rrA recA knB flB stB sB bB rrB recB rkn ran rr2 rr3 rr4 rt rpa lz can cts td lk fc FL fcf fpf x0 a2 s4 w4 s5 w5 a8 a9 a3 i0 i1 i6 a7 rl rf f4 f5 ef sl cm pp htz hR hTk hgo hmk hM hsA hrA hmA hsB hrB hmB hrt hlz hrl hrm)) ⟨Or.inr ⟨hx441_0, fun a b c _ _ _ ho _ _ _ => ho.1 rfl⟩, rfl, rfl, rfl, rfl, rfl, rfl, rfl, rfl, rfl, rfl, rfl, rfl⟩ hP hD hS
    · have hW : gOkW mf := by rw [hm1.2]; exact hm1.1.2 vk (Nat.le_refl _)
      refine gq_goi (wc := [(h0, .inr (8, [.ref a, .int (nI tz), .ref r0, .int fp, .int ld, .ref p0, .ref m0, .ref x0, .ref oA, .ref oB, .ref ra, .ref cu])), (m0, .inr (3, [.ref ms, .int vst, .int (nI vk), .int vm, .ref md])), (ms, .inr (7, [.ref mw])), (mw, .inl (cI, 34, .inl mf)), (p0, .inr (4, [.int (nI nc), .ref b1, .ref b2, .ref b3]))]) (wr := [(a, .inl (cB, 4000, .inl f)), (r0, .inr (6, [.ref d0, .int pv, .int fv, .int lp, .ref k4, .ref k5, .ref k6, .ref k7, .int (nI t), .int tl, .int vr, .int vl])), (k4, .inl (cI, 501, .inl (fun j => nI (Kd j)))), (k5, .inl (cI, 501, .inl sf)), (k6, .inl (cI, 501, .inl nf)), (k7, .inl (cI, 6, .inl (fun j => nI (Tk j)))), (b1, .inl (cI, 3, .inl (fun j => nI (L j)))), (b2, .inl (cI, 4, .inl cf)), (b3, .inl (cI, 192, .inl pf)), (d0, .inr (4, [.int (nI ncd), .ref e1, .ref e2, .ref e3])), (e1, .inl (cI, 3, .inl (fun j => nI (Ld j)))), (e2, .inl (cI, 4, .inl cfd)), (e3, .inl (cI, 192, .inl pfd)), (md, .inl (cI, 38, .inl vd)), (oA, .inr (2, [.int knA, .int flA, .int (nI stA), .int (nI sA), .ref bA])), (bA, .inl (cI, rrA, .inl recA)), (oB, .inr (2, [.int knB, .int flB, .int (nI stB), .int (nI sB), .ref bB])), (bB, .inl (cI, rrB, .inl recB)), (ra, .inr (5, [.int rkn, .int ran, .int rr2, .int rr3, .int rr4, .int (nI rt), .ref a6])), (a6, .inl (cI, 38, .inl rpa)), (cu, .inr (0, [.ref f0, .int (nI lz), .int can, .ref a3l, .int cts, .ref a5t])), (a3l, .inl (cI, 2, .inl lk)), (a5t, .inl (cI, 2, .inl td)), (f0, .inr (4, [.int fc, .ref g1, .ref g2, .ref g3])), (g1, .inl (cI, 3, .inl (fun j => nI (FL j)))), (g2, .inl (cI, 4, .inl fcf)), (g3, .inl (cI, 192, .inl fpf)), (x0, .inr (1, [.int i0, .int i1, .ref a2, .ref a3, .ref s4, .ref s5, .int i6, .ref a7, .ref a8, .ref a9])), (s4, .inr (7, [.ref w4])), (w4, .inl (cI, 34, .inl f4)), (s5, .inr (7, [.ref w5])), (w5, .inl (cI, 34, .inl f5)), (a2, .inl (cI, 3000, .inl ef)), (a7, .inl (cI, rl, .inl rf)), (a8, .inl (cI, 4096, .inl sl)), (a9, .inl (cI, 3000, .inl cm)), (a3, .inl (cI, 38, .inl pp))]) (va_runV (As := [.int z1, .int z2, .int z3]) (rest := []) ⟨hx, hb, hml, hown, hts⟩ (x_store8 l D cI cB cZ h0 ld (.ref a) (.int (nI tz)) (.ref r0) (.int fp) (.ref x0) (.ref oA) (.ref oB) (.ref ra) (.ref cu) m0 ms mw vst (.int (nI vk)) (.int vm) (.ref md) mf p0 nc (.ref b1) (.ref b2) (.ref b3) z1 z2 z3 hc hW _) (cwV 3 hts gP_law__x_store8 rfl rfl rfl (by decide +kernel) ⟨Nat.le_of_ble_eq_true rfl, Nat.le_of_ble_eq_true rfl⟩) (gx_preV (ci := 8) (q0 := 0) hK gN.nil (gq_Pl hP) (gq_Dl hD) [0, 15, 16, 17, 7] rfl rfl rfl rfl) rfl rfl hl.1 rfl (lv_room (Nat.le_of_ble_eq_true rfl)) dL_law_441 ⟨(Nat.le_trans (Nat.add_le_add_right hkb.1 _) (Nat.le_of_ble_eq_true rfl)), (Nat.le_trans (Nat.add_le_add_right hkb.2 _) (Nat.le_of_ble_eq_true rfl))⟩) hP hD hS hA [0, 15, 16, 17, 7] [1, 2, 3, 4, 5, 6, 8, 9, 10, 11, 12, 13, 14, 18, 19, 20, 21, 22, 23, 24, 25, 26, 27, 28, 29, 30, 31, 32, 33, 34, 35, 36, 37, 38, 39, 40, 41] rfl rfl rfl (by decide) (fun r1 w1 H locs hp hP hD hS => ?_)
      obtain ⟨e_2, hp⟩ := hp
      obtain ⟨hx441_0, hp⟩ := hp
      obtain ⟨h9, hp⟩ := hp
      subst hp
      have h9 := h9.symm
      subst h9
      have hx441_0 : rQ (fun a b c => ¬ vst = 0 ∧ ¬ ld = 0 ∧ a < nc ∧ b < gSz (mf (13 + a)) ∧ c < 2) (fun a b c => if c = 0 then nI (gCl (mf (13 + a)) b) else mf ((16 + (a * 6)) + b)) (-1) z1 z2 z3 e_2 := hx441_0
      have hP : va_P D vwCl ([(a, .inl (cB, 4000, .inl f)), (r0, .inr (6, [.ref d0, .int pv, .int fv, .int lp, .ref k4, .ref k5, .ref k6, .ref k7, .int (nI t), .int tl, .int vr, .int vl])), (k4, .inl (cI, 501, .inl (fun j => nI (Kd j)))), (k5, .inl (cI, 501, .inl sf)), (k6, .inl (cI, 501, .inl nf)), (k7, .inl (cI, 6, .inl (fun j => nI (Tk j)))), (b1, .inl (cI, 3, .inl (fun j => nI (L j)))), (b2, .inl (cI, 4, .inl cf)), (b3, .inl (cI, 192, .inl pf)), (d0, .inr (4, [.int (nI ncd), .ref e1, .ref e2, .ref e3])), (e1, .inl (cI, 3, .inl (fun j => nI (Ld j)))), (e2, .inl (cI, 4, .inl cfd)), (e3, .inl (cI, 192, .inl pfd)), (md, .inl (cI, 38, .inl vd)), (oA, .inr (2, [.int knA, .int flA, .int (nI stA), .int (nI sA), .ref bA])), (bA, .inl (cI, rrA, .inl recA)), (oB, .inr (2, [.int knB, .int flB, .int (nI stB), .int (nI sB), .ref bB])), (bB, .inl (cI, rrB, .inl recB)), (ra, .inr (5, [.int rkn, .int ran, .int rr2, .int rr3, .int rr4, .int (nI rt), .ref a6])), (a6, .inl (cI, 38, .inl rpa)), (cu, .inr (0, [.ref f0, .int (nI lz), .int can, .ref a3l, .int cts, .ref a5t])), (a3l, .inl (cI, 2, .inl lk)), (a5t, .inl (cI, 2, .inl td)), (f0, .inr (4, [.int fc, .ref g1, .ref g2, .ref g3])), (g1, .inl (cI, 3, .inl (fun j => nI (FL j)))), (g2, .inl (cI, 4, .inl fcf)), (g3, .inl (cI, 192, .inl fpf)), (x0, .inr (1, [.int i0, .int i1, .ref a2, .ref a3, .ref s4, .ref s5, .int i6, .ref a7, .ref a8, .ref a9])), (s4, .inr (7, [.ref w4])), (w4, .inl (cI, 34, .inl f4)), (s5, .inr (7, [.ref w5])), (w5, .inl (cI, 34, .inl f5)), (a2, .inl (cI, 3000, .inl ef)), (a7, .inl (cI, rl, .inl rf)), (a8, .inl (cI, 4096, .inl sl)), (a9, .inl (cI, 3000, .inl cm)), (a3, .inl (cI, 38, .inl pp)), (h0, .inr (8, [.ref a, .int (nI tz), .ref r0, .int fp, .int ld, .ref p0, .ref m0, .ref x0, .ref oA, .ref oB, .ref ra, .ref cu])), (m0, .inr (3, [.ref ms, .int vst, .int (nI vk), .int vm, .ref md])), (ms, .inr (7, [.ref mw])), (mw, .inl (cI, 34, .inl mf)), (p0, .inr (4, [.int (nI nc), .ref b1, .ref b2, .ref b3]))] ++ w9) H := hP
      have hD : va_D A ([(a, .inl (cB, 4000, .inl f)), (r0, .inr (6, [.ref d0, .int pv, .int fv, .int lp, .ref k4, .ref k5, .ref k6, .ref k7, .int (nI t), .int tl, .int vr, .int vl])), (k4, .inl (cI, 501, .inl (fun j => nI (Kd j)))), (k5, .inl (cI, 501, .inl sf)), (k6, .inl (cI, 501, .inl nf)), (k7, .inl (cI, 6, .inl (fun j => nI (Tk j)))), (b1, .inl (cI, 3, .inl (fun j => nI (L j)))), (b2, .inl (cI, 4, .inl cf)), (b3, .inl (cI, 192, .inl pf)), (d0, .inr (4, [.int (nI ncd), .ref e1, .ref e2, .ref e3])), (e1, .inl (cI, 3, .inl (fun j => nI (Ld j)))), (e2, .inl (cI, 4, .inl cfd)), (e3, .inl (cI, 192, .inl pfd)), (md, .inl (cI, 38, .inl vd)), (oA, .inr (2, [.int knA, .int flA, .int (nI stA), .int (nI sA), .ref bA])), (bA, .inl (cI, rrA, .inl recA)), (oB, .inr (2, [.int knB, .int flB, .int (nI stB), .int (nI sB), .ref bB])), (bB, .inl (cI, rrB, .inl recB)), (ra, .inr (5, [.int rkn, .int ran, .int rr2, .int rr3, .int rr4, .int (nI rt), .ref a6])), (a6, .inl (cI, 38, .inl rpa)), (cu, .inr (0, [.ref f0, .int (nI lz), .int can, .ref a3l, .int cts, .ref a5t])), (a3l, .inl (cI, 2, .inl lk)), (a5t, .inl (cI, 2, .inl td)), (f0, .inr (4, [.int fc, .ref g1, .ref g2, .ref g3])), (g1, .inl (cI, 3, .inl (fun j => nI (FL j)))), (g2, .inl (cI, 4, .inl fcf)), (g3, .inl (cI, 192, .inl fpf)), (x0, .inr (1, [.int i0, .int i1, .ref a2, .ref a3, .ref s4, .ref s5, .int i6, .ref a7, .ref a8, .ref a9])), (s4, .inr (7, [.ref w4])), (w4, .inl (cI, 34, .inl f4)), (s5, .inr (7, [.ref w5])), (w5, .inl (cI, 34, .inl f5)), (a2, .inl (cI, 3000, .inl ef)), (a7, .inl (cI, rl, .inl rf)), (a8, .inl (cI, 4096, .inl sl)), (a9, .inl (cI, 3000, .inl cm)), (a3, .inl (cI, 38, .inl pp)), (h0, .inr (8, [.ref a, .int (nI tz), .ref r0, .int fp, .int ld, .ref p0, .ref m0, .ref x0, .ref oA, .ref oB, .ref ra, .ref cu])), (m0, .inr (3, [.ref ms, .int vst, .int (nI vk), .int vm, .ref md])), (ms, .inr (7, [.ref mw])), (mw, .inl (cI, 34, .inl mf)), (p0, .inr (4, [.int (nI nc), .ref b1, .ref b2, .ref b3]))] ++ w9) := hD
      refine W.widen (k := 63 + (rrA / 17) + (rrB / 17) + 10 + ((rl - 1600) / 4800)) (n := 584682 + (2 * rrA + 51000 * (rrA / 51000)) + (2 * rrB + 51000 * (rrB / 51000)) + 11814 + (2 * (rl - 1600))) (Nat.le_refl _) (Nat.le_refl _) ?_
      have hP := gq_subP (X' := [(h0, .inr (8, [.ref a, .int (nI tz), .ref r0, .int fp, .int ld, .ref p0, .ref m0, .ref x0, .ref oA, .ref oB, .ref ra, .ref cu])), (a, .inl (cB, 4000, .inl f)), (r0, .inr (6, [.ref d0, .int pv, .int fv, .int lp, .ref k4, .ref k5, .ref k6, .ref k7, .int (nI t), .int tl, .int vr, .int vl])), (k4, .inl (cI, 501, .inl (fun j => nI (Kd j)))), (k5, .inl (cI, 501, .inl sf)), (k6, .inl (cI, 501, .inl nf)), (k7, .inl (cI, 6, .inl (fun j => nI (Tk j)))), (p0, .inr (4, [.int (nI nc), .ref b1, .ref b2, .ref b3])), (b1, .inl (cI, 3, .inl (fun j => nI (L j)))), (b2, .inl (cI, 4, .inl cf)), (b3, .inl (cI, 192, .inl pf)), (d0, .inr (4, [.int (nI ncd), .ref e1, .ref e2, .ref e3])), (e1, .inl (cI, 3, .inl (fun j => nI (Ld j)))), (e2, .inl (cI, 4, .inl cfd)), (e3, .inl (cI, 192, .inl pfd)), (m0, .inr (3, [.ref ms, .int vst, .int (nI vk), .int vm, .ref md])), (ms, .inr (7, [.ref mw])), (mw, .inl (cI, 34, .inl mf)), (md, .inl (cI, 38, .inl vd)), (oA, .inr (2, [.int knA, .int flA, .int (nI stA), .int (nI sA), .ref bA])), (bA, .inl (cI, rrA, .inl recA)), (oB, .inr (2, [.int knB, .int flB, .int (nI stB), .int (nI sB), .ref bB])), (bB, .inl (cI, rrB, .inl recB)), (ra, .inr (5, [.int rkn, .int ran, .int rr2, .int rr3, .int rr4, .int (nI rt), .ref a6])), (a6, .inl (cI, 38, .inl rpa)), (cu, .inr (0, [.ref f0, .int (nI lz), .int can, .ref a3l, .int cts, .ref a5t])), (a3l, .inl (cI, 2, .inl lk)), (a5t, .inl (cI, 2, .inl td)), (f0, .inr (4, [.int fc, .ref g1, .ref g2, .ref g3])), (g1, .inl (cI, 3, .inl (fun j => nI (FL j)))), (g2, .inl (cI, 4, .inl fcf)), (g3, .inl (cI, 192, .inl fpf)), (x0, .inr (1, [.int i0, .int i1, .ref a2, .ref a3, .ref s4, .ref s5, .int i6, .ref a7, .ref a8, .ref a9])), (s4, .inr (7, [.ref w4])), (w4, .inl (cI, 34, .inl f4)), (s5, .inr (7, [.ref w5])), (w5, .inl (cI, 34, .inl f5)), (a2, .inl (cI, 3000, .inl ef)), (a7, .inl (cI, rl, .inl rf)), (a8, .inl (cI, 4096, .inl sl)), (a9, .inl (cI, 3000, .inl cm)), (a3, .inl (cI, 38, .inl pp))]) hP [37, 0, 1, 2, 3, 4, 5, 41, 6, 7, 8, 9, 10, 11, 12, 38, 39, 40, 13, 14, 15, 16, 17, 18, 19, 20, 21, 22, 23, 24, 25, 26, 27, 28, 29, 30, 31, 32, 33, 34, 35, 36] rfl
      have hD := gq_subD (X' := [(h0, .inr (8, [.ref a, .int (nI tz), .ref r0, .int fp, .int ld, .ref p0, .ref m0, .ref x0, .ref oA, .ref oB, .ref ra, .ref cu])), (a, .inl (cB, 4000, .inl f)), (r0, .inr (6, [.ref d0, .int pv, .int fv, .int lp, .ref k4, .ref k5, .ref k6, .ref k7, .int (nI t), .int tl, .int vr, .int vl])), (k4, .inl (cI, 501, .inl (fun j => nI (Kd j)))), (k5, .inl (cI, 501, .inl sf)), (k6, .inl (cI, 501, .inl nf)), (k7, .inl (cI, 6, .inl (fun j => nI (Tk j)))), (p0, .inr (4, [.int (nI nc), .ref b1, .ref b2, .ref b3])), (b1, .inl (cI, 3, .inl (fun j => nI (L j)))), (b2, .inl (cI, 4, .inl cf)), (b3, .inl (cI, 192, .inl pf)), (d0, .inr (4, [.int (nI ncd), .ref e1, .ref e2, .ref e3])), (e1, .inl (cI, 3, .inl (fun j => nI (Ld j)))), (e2, .inl (cI, 4, .inl cfd)), (e3, .inl (cI, 192, .inl pfd)), (m0, .inr (3, [.ref ms, .int vst, .int (nI vk), .int vm, .ref md])), (ms, .inr (7, [.ref mw])), (mw, .inl (cI, 34, .inl mf)), (md, .inl (cI, 38, .inl vd)), (oA, .inr (2, [.int knA, .int flA, .int (nI stA), .int (nI sA), .ref bA])), (bA, .inl (cI, rrA, .inl recA)), (oB, .inr (2, [.int knB, .int flB, .int (nI stB), .int (nI sB), .ref bB])), (bB, .inl (cI, rrB, .inl recB)), (ra, .inr (5, [.int rkn, .int ran, .int rr2, .int rr3, .int rr4, .int (nI rt), .ref a6])), (a6, .inl (cI, 38, .inl rpa)), (cu, .inr (0, [.ref f0, .int (nI lz), .int can, .ref a3l, .int cts, .ref a5t])), (a3l, .inl (cI, 2, .inl lk)), (a5t, .inl (cI, 2, .inl td)), (f0, .inr (4, [.int fc, .ref g1, .ref g2, .ref g3])), (g1, .inl (cI, 3, .inl (fun j => nI (FL j)))), (g2, .inl (cI, 4, .inl fcf)), (g3, .inl (cI, 192, .inl fpf)), (x0, .inr (1, [.int i0, .int i1, .ref a2, .ref a3, .ref s4, .ref s5, .int i6, .ref a7, .ref a8, .ref a9])), (s4, .inr (7, [.ref w4])), (w4, .inl (cI, 34, .inl f4)), (s5, .inr (7, [.ref w5])), (w5, .inl (cI, 34, .inl f5)), (a2, .inl (cI, 3000, .inl ef)), (a7, .inl (cI, rl, .inl rf)), (a8, .inl (cI, 4096, .inl sl)), (a9, .inl (cI, 3000, .inl cm)), (a3, .inl (cI, 38, .inl pp))]) hD [37, 0, 1, 2, 3, 4, 5, 41, 6, 7, 8, 9, 10, 11, 12, 38, 39, 40, 13, 14, 15, 16, 17, 18, 19, 20, 21, 22, 23, 24, 25, 26, 27, 28, 29, 30, 31, 32, 33, 34, 35, 36] (by decide) rfl
      exact kk e_2 _ tz f fp ld nc L cf pf vst vk vm vd _ _ H locs (Or.inr (HallE_mk cI cB cZ h0 tz f fp ld nc L cf pf vst vk vm vd a r0 k4 k5 k6 k7 p0 b1 b2 b3 d0 e1 e2 e3 m0 ms mw md oA oB ra a6 cu f0 g1 g2 g3 a3l a5t pv fv lp t tl vr vl Kd sf nf Tk ncd Ld cfd pfd mf knA flA stA sA bA rrA recA knB flB stB sB bB rrB recB rkn ran rr2 rr3 rr4 rt rpa lz can cts td lk fc FL fcf fpf x0 a2 s4 w4 s5 w5 a8 a9 a3 i0 i1 i6 a7 rl rf f4 f5 ef sl cm pp htz hR hTk hgo hmk hM hsA hrA hmA hsB hrB hmB hrt hlz hrl hrm)) ⟨rq_m (ok := fun g a b c => ¬ vst = 0 ∧ ¬ ld = 0 ∧ a < nc ∧ b < gSz (g (13 + a)) ∧ c < 2) (val := fun g a b c => if c = 0 then nI (gCl (g (13 + a)) b) else g ((16 + (a * 6)) + b)) hM (fun _ _ _ _ h => h.1) hx441_0, rfl, rfl, rfl, rfl, rfl, rfl, rfl, rfl, rfl, rfl, rfl, rfl⟩ hP hD hS
