set_option maxHeartbeats 4000000 in
set_option maxRecDepth 100000 in
theorem md_feed {p : Program} {l : Launch} {e : Env} {s : State} {m : MethodId} {below : List Frame} {meth : Method} {c : Code} {b : Nat} {A : Nat → Prop} {Q : State → Prop} {D : va_G} {cI cB cZ : ClassId} {K : gKS} (G : gL p s m c b A D cI cB cZ K) {H : Heap} {locs : List Loc} {ls : Array Slot} {w8 w9 : va_W} {h0 tz kc ns tz9 : Nat} {f f9 : Nat → Int32} {fp ld fp9 ld9 : Int32} {nc nc9 : Nat} {L L9 : Nat → Nat} {cf cf9 : Nat → Int32} {pf pf9 : Nat → Int32} {vst vst9 : Int32} {vk vk9 : Nat} {vm vm9 : Int32} {vd vd9 : Nat → Int32} (hkb : kc ≤ 20000 ∧ ns ≤ 2000000) (hH : ModelI cI cB cZ h0 w8 tz f fp ld nc L cf pf vst vk vm vd) (hP : va_P D vwCl (w8 ++ w9) H) (hD : va_D A (w8 ++ w9)) (hS : va_S A s.heap H locs) (hl : ls.size = 4 ∧ True) (z1 : Int32) (z2 : Int32) (z3 : Int32) (z4 : Int32) (z5 : Int32) (r8 : Int32) (hR : ((3980 < tz ∧ r8 = (-1) ∧ tz9 = tz ∧ f9 = f) ∨ (tz ≤ 3980 ∧ r8 = nI (tz + 20) ∧ tz9 = tz + 20 ∧ f9 = rF5 f tz z1 z2 z3 z4 z5)) ∧ fp = fp9 ∧ ld = ld9 ∧ nc = nc9 ∧ L = L9 ∧ cf = cf9 ∧ pf = pf9 ∧ vst = vst9 ∧ vk = vk9 ∧ vm = vm9 ∧ vd = vd9) (kk : ∀ (r : Int32) (w8' : va_W) (H1 : Heap) (locs1 : List Loc), ModelI cI cB cZ h0 w8' tz9 f9 fp9 ld9 nc9 L9 cf9 pf9 vst9 vk9 vm9 vd9 → (True) → va_P D vwCl (w8' ++ w9) H1 → va_D A (w8' ++ w9) → va_S A s.heap H1 locs1 → W p l e room_1 s m #[Value.ref b] below meth c H1 locs1 kc ns Q (F0 m 191 ls [.int r])) : W p l e room_1 s m #[Value.ref b] below meth c H locs kc ns Q (F0 m 188 ls [.int z5, .int z4, .int z3, .int z2, .int z1, .ref h0]) := by
  obtain ⟨hx, hb, hml, hown, hts, hA, hK, hN, hE⟩ := G
  unfold ModelI at hH
  obtain ⟨a0, hH⟩ := hH
  obtain ⟨a1, hH⟩ := hH
  obtain ⟨a2, hH⟩ := hH
  obtain ⟨a3, hH⟩ := hH
  obtain ⟨a4, hH⟩ := hH
  obtain ⟨a5, hH⟩ := hH
  obtain ⟨a6, hH⟩ := hH
  obtain ⟨a7, hH⟩ := hH
  obtain ⟨a8, hH⟩ := hH
  obtain ⟨a9, hH⟩ := hH
  obtain ⟨a10, hH⟩ := hH
  obtain ⟨a12, hH⟩ := hH
  obtain ⟨a13, hH⟩ := hH
  obtain ⟨a14, hH⟩ := hH
  obtain ⟨a15, hH⟩ := hH
  obtain ⟨a16, hH⟩ := hH
  obtain ⟨a17, hH⟩ := hH
  obtain ⟨a18, hH⟩ := hH
  obtain ⟨a19, hH⟩ := hH
  obtain ⟨a20, hH⟩ := hH
  obtain ⟨a21, hH⟩ := hH
  obtain ⟨a22, hH⟩ := hH
  obtain ⟨a23, hH⟩ := hH
  obtain ⟨a24, hH⟩ := hH
  obtain ⟨a27, hH⟩ := hH
  obtain ⟨a40, hH⟩ := hH
  obtain ⟨a45, hH⟩ := hH
  obtain ⟨a48, hH⟩ := hH
  obtain ⟨a49, hH⟩ := hH
  obtain ⟨a51, hH⟩ := hH
  obtain ⟨C, hH⟩ := hH
  obtain ⟨Mn, hH⟩ := hH
  obtain ⟨kd, hH⟩ := hH
  obtain ⟨cl, hH⟩ := hH
  obtain ⟨rg, hH⟩ := hH
  obtain ⟨uv1, hH⟩ := hH
  obtain ⟨ui1, hH⟩ := hH
  obtain ⟨uv2, hH⟩ := hH
  obtain ⟨ui2, hH⟩ := hH
  obtain ⟨sk, hH⟩ := hH
  obtain ⟨ci, hH⟩ := hH
  obtain ⟨sf, hH⟩ := hH
  obtain ⟨fr, hH⟩ := hH
  obtain ⟨bf, hH⟩ := hH
  obtain ⟨nf, hH⟩ := hH
  obtain ⟨hf, hH⟩ := hH
  obtain ⟨S, hH⟩ := hH
  obtain ⟨ff, hH⟩ := hH
  obtain ⟨df, hH⟩ := hH
  obtain ⟨en, hH⟩ := hH
  obtain ⟨E, hH⟩ := hH
  obtain ⟨nw, hH⟩ := hH
  obtain ⟨mf, hH⟩ := hH
  obtain ⟨hh, hH⟩ := hH
  obtain ⟨sp, hH⟩ := hH
  obtain ⟨rt, hH⟩ := hH
  obtain ⟨cu, hH⟩ := hH
  obtain ⟨spt, hH⟩ := hH
  obtain ⟨mv, hH⟩ := hH
  obtain ⟨dn, hH⟩ := hH
  obtain ⟨mo, hH⟩ := hH
  obtain ⟨fk, hH⟩ := hH
  obtain ⟨so, hH⟩ := hH
  obtain ⟨bg, hH⟩ := hH
  obtain ⟨ten, hH⟩ := hH
  obtain ⟨wd, hH⟩ := hH
  obtain ⟨tk, hH⟩ := hH
  obtain ⟨sd, hH⟩ := hH
  obtain ⟨nb, hH⟩ := hH
  obtain ⟨np, hH⟩ := hH
  obtain ⟨pli, hH⟩ := hH
  obtain ⟨rc, hH⟩ := hH
  obtain ⟨rR, hH⟩ := hH
  obtain ⟨rW, hH⟩ := hH
  obtain ⟨rX, hH⟩ := hH
  obtain ⟨rs, hH⟩ := hH
  obtain ⟨cm, hH⟩ := hH
  obtain ⟨sno, hH⟩ := hH
  obtain ⟨htp, hH⟩ := hH
  obtain ⟨hB, hH⟩ := hH
  obtain ⟨hMo, hH⟩ := hH
  obtain ⟨hAn, hH⟩ := hH
  obtain ⟨hrs, hH⟩ := hH
  obtain ⟨hcm, hH⟩ := hH
  obtain ⟨hMP, hH⟩ := hH
  obtain ⟨hMH, hH⟩ := hH
  subst hH
  obtain ⟨-, e1, e2, e3, e4, e5, e6, e7, e8, e9, e10⟩ := id hR
  subst e1; subst e2; subst e3; subst e4; subst e5; subst e6; subst e7; subst e8; subst e9; subst e10
  refine gq_goi (wc := [(h0, .inr (9, [.ref a0, .ref a1, .ref a2, .ref a3, .ref a4, .ref a5, .ref a6, .ref a7, .ref a8, .ref a9, .ref a10, .int ld, .ref a12, .ref a13, .ref a14, .ref a15, .ref a16, .ref a17, .ref a18, .ref a19, .ref a20, .ref a21, .ref a22, .ref a23, .ref a24, .int (nI dn), .int mo, .ref a27, .int (nI tz), .int fk, .int fp, .int so, .int (nI bg), .int (nI ten), .long wd, .int (nI tk), .int sd, .int nb, .int np, .int pli, .ref a40, .int rc, .int rR, .int rW, .int rX, .ref a45, .int (nI rs), .int cm, .ref a48, .ref a49, .int (nI sno), .ref a51])), (a27, .inl (cB, 4000, .inl f))]) (wr := [(a0, .inl (cI, 3, .inl (fun j => nI (C j)))), (a1, .inl (cI, 9, .inl (fun j => nI (Mn j)))), (a2, .inl (cI, 108, .inl kd)), (a3, .inl (cI, 108, .inl cl)), (a4, .inl (cI, 108, .inl rg)), (a5, .inl (cI, 108, .inl uv1)), (a6, .inl (cI, 108, .inl ui1)), (a7, .inl (cI, 108, .inl uv2)), (a8, .inl (cI, 108, .inl ui2)), (a9, .inl (cI, 108, .inl sk)), (a10, .inl (cI, 12, .inl ci)), (a12, .inl (cI, 522000, .inl sf)), (a13, .inl (cI, 9000, .inl fr)), (a14, .inl (cI, 9000, .inl bf)), (a15, .inl (cI, 9000, .inl nf)), (a16, .inl (cI, 12288, .inl hf)), (a17, .inl (cI, 3, .inl (fun j => nI (S j)))), (a18, .inl (cZ, 3, .inl ff)), (a19, .inl (cZ, 3, .inl df)), (a20, .inl (cI, 9000, .inl en)), (a21, .inl (cI, 3, .inl (fun j => nI (E j)))), (a22, .inl (cI, 58, .inl nw)), (a23, .inl (cI, 58, .inl mf)), (a24, .inl (cI, 2900, .inl hh)), (a40, .inl (cI, 12, .inl sp)), (a45, .inl (cI, 64, .inl rt)), (a48, .inl (cI, 2, .inl cu)), (a49, .inl (cI, 16, .inl spt)), (a51, .inl (cI, 13, .inl (fun j => nI (mv j))))]) (va_runV (As := [.int z1, .int z2, .int z3, .int z4, .int z5]) (rest := []) ⟨hx, hb, hml, hown, hts⟩ (x_X9_feed l D cI cB cZ h0 a27 (.ref a0) (.ref a1) (.ref a2) (.ref a3) (.ref a4) (.ref a5) (.ref a6) (.ref a7) (.ref a8) (.ref a9) (.ref a10) (.int ld) (.ref a12) (.ref a13) (.ref a14) (.ref a15) (.ref a16) (.ref a17) (.ref a18) (.ref a19) (.ref a20) (.ref a21) (.ref a22) (.ref a23) (.ref a24) (.int (nI dn)) (.int mo) (.int fk) (.int fp) (.int so) (.int (nI bg)) (.int (nI ten)) (.long wd) (.int (nI tk)) (.int sd) (.int nb) (.int np) (.int pli) (.ref a40) (.int rc) (.int rR) (.int rW) (.int rX) (.ref a45) (.int (nI rs)) (.int cm) (.ref a48) (.ref a49) (.int (nI sno)) (.ref a51) f tz z1 z2 z3 z4 z5 htp _) (cwV 5 hts gP_law__x_X9_feed rfl rfl rfl (by decide +kernel) ⟨Nat.le_of_ble_eq_true rfl, Nat.le_of_ble_eq_true rfl⟩) (gx_preV (ci := 9) (q0 := 0) hK gN.nil (gq_Pl hP) (gq_Dl hD) [0, 25] rfl rfl rfl rfl) rfl rfl hl.1 rfl (lv_room (Nat.le_of_ble_eq_true rfl)) dL_law_188 ⟨(Nat.le_trans (Nat.add_le_add_right hkb.1 _) (Nat.le_of_ble_eq_true rfl)), (Nat.le_trans (Nat.add_le_add_right hkb.2 _) (Nat.le_of_ble_eq_true rfl))⟩) hP hD hS hA [0, 25] [1, 2, 3, 4, 5, 6, 7, 8, 9, 10, 11, 12, 13, 14, 15, 16, 17, 18, 19, 20, 21, 22, 23, 24, 26, 27, 28, 29, 30] rfl rfl rfl (by decide) (fun r1 w1 H locs hp hP hD hS => ?_)
  obtain ⟨gm, hp⟩ := hp
  obtain ⟨zm, hp⟩ := hp
  obtain ⟨mm, hp⟩ := hp
  obtain ⟨hq_1, hp⟩ := hp
  obtain ⟨h9, hp⟩ := hp
  subst hp
  have h9 := h9.symm
  subst h9
  have hq_1 : (3980 < tz ∧ zm = (-1) ∧ mm = tz ∧ gm = f) ∨ (tz ≤ 3980 ∧ zm = nI (tz + 20) ∧ mm = tz + 20 ∧ gm = rF5 f tz z1 z2 z3 z4 z5) := hq_1
  have hP : va_P D vwCl ([(a0, .inl (cI, 3, .inl (fun j => nI (C j)))), (a1, .inl (cI, 9, .inl (fun j => nI (Mn j)))), (a2, .inl (cI, 108, .inl kd)), (a3, .inl (cI, 108, .inl cl)), (a4, .inl (cI, 108, .inl rg)), (a5, .inl (cI, 108, .inl uv1)), (a6, .inl (cI, 108, .inl ui1)), (a7, .inl (cI, 108, .inl uv2)), (a8, .inl (cI, 108, .inl ui2)), (a9, .inl (cI, 108, .inl sk)), (a10, .inl (cI, 12, .inl ci)), (a12, .inl (cI, 522000, .inl sf)), (a13, .inl (cI, 9000, .inl fr)), (a14, .inl (cI, 9000, .inl bf)), (a15, .inl (cI, 9000, .inl nf)), (a16, .inl (cI, 12288, .inl hf)), (a17, .inl (cI, 3, .inl (fun j => nI (S j)))), (a18, .inl (cZ, 3, .inl ff)), (a19, .inl (cZ, 3, .inl df)), (a20, .inl (cI, 9000, .inl en)), (a21, .inl (cI, 3, .inl (fun j => nI (E j)))), (a22, .inl (cI, 58, .inl nw)), (a23, .inl (cI, 58, .inl mf)), (a24, .inl (cI, 2900, .inl hh)), (a40, .inl (cI, 12, .inl sp)), (a45, .inl (cI, 64, .inl rt)), (a48, .inl (cI, 2, .inl cu)), (a49, .inl (cI, 16, .inl spt)), (a51, .inl (cI, 13, .inl (fun j => nI (mv j)))), (h0, .inr (9, [.ref a0, .ref a1, .ref a2, .ref a3, .ref a4, .ref a5, .ref a6, .ref a7, .ref a8, .ref a9, .ref a10, .int ld, .ref a12, .ref a13, .ref a14, .ref a15, .ref a16, .ref a17, .ref a18, .ref a19, .ref a20, .ref a21, .ref a22, .ref a23, .ref a24, .int (nI dn), .int mo, .ref a27, .int (nI mm), .int fk, .int fp, .int so, .int (nI bg), .int (nI ten), .long wd, .int (nI tk), .int sd, .int nb, .int np, .int pli, .ref a40, .int rc, .int rR, .int rW, .int rX, .ref a45, .int (nI rs), .int cm, .ref a48, .ref a49, .int (nI sno), .ref a51])), (a27, .inl (cB, 4000, .inl gm))] ++ w9) H := hP
  have hD : va_D A ([(a0, .inl (cI, 3, .inl (fun j => nI (C j)))), (a1, .inl (cI, 9, .inl (fun j => nI (Mn j)))), (a2, .inl (cI, 108, .inl kd)), (a3, .inl (cI, 108, .inl cl)), (a4, .inl (cI, 108, .inl rg)), (a5, .inl (cI, 108, .inl uv1)), (a6, .inl (cI, 108, .inl ui1)), (a7, .inl (cI, 108, .inl uv2)), (a8, .inl (cI, 108, .inl ui2)), (a9, .inl (cI, 108, .inl sk)), (a10, .inl (cI, 12, .inl ci)), (a12, .inl (cI, 522000, .inl sf)), (a13, .inl (cI, 9000, .inl fr)), (a14, .inl (cI, 9000, .inl bf)), (a15, .inl (cI, 9000, .inl nf)), (a16, .inl (cI, 12288, .inl hf)), (a17, .inl (cI, 3, .inl (fun j => nI (S j)))), (a18, .inl (cZ, 3, .inl ff)), (a19, .inl (cZ, 3, .inl df)), (a20, .inl (cI, 9000, .inl en)), (a21, .inl (cI, 3, .inl (fun j => nI (E j)))), (a22, .inl (cI, 58, .inl nw)), (a23, .inl (cI, 58, .inl mf)), (a24, .inl (cI, 2900, .inl hh)), (a40, .inl (cI, 12, .inl sp)), (a45, .inl (cI, 64, .inl rt)), (a48, .inl (cI, 2, .inl cu)), (a49, .inl (cI, 16, .inl spt)), (a51, .inl (cI, 13, .inl (fun j => nI (mv j)))), (h0, .inr (9, [.ref a0, .ref a1, .ref a2, .ref a3, .ref a4, .ref a5, .ref a6, .ref a7, .ref a8, .ref a9, .ref a10, .int ld, .ref a12, .ref a13, .ref a14, .ref a15, .ref a16, .ref a17, .ref a18, .ref a19, .ref a20, .ref a21, .ref a22, .ref a23, .ref a24, .int (nI dn), .int mo, .ref a27, .int (nI mm), .int fk, .int fp, .int so, .int (nI bg), .int (nI ten), .long wd, .int (nI tk), .int sd, .int nb, .int np, .int pli, .ref a40, .int rc, .int rR, .int rW, .int rX, .ref a45, .int (nI rs), .int cm, .ref a48, .ref a49, .int (nI sno), .ref a51])), (a27, .inl (cB, 4000, .inl gm))] ++ w9) := hD
  refine W.widen (k := kc) (n := ns) (Nat.le_refl _) (Nat.le_refl _) ?_
  obtain ⟨hfa, hfb, hfc⟩ := fd_eq hR.1 hq_1
  subst hfb; subst hfc
  have hP : va_P D vwCl ([(a0, .inl (cI, 3, .inl (fun j => nI (C j)))), (a1, .inl (cI, 9, .inl (fun j => nI (Mn j)))), (a2, .inl (cI, 108, .inl kd)), (a3, .inl (cI, 108, .inl cl)), (a4, .inl (cI, 108, .inl rg)), (a5, .inl (cI, 108, .inl uv1)), (a6, .inl (cI, 108, .inl ui1)), (a7, .inl (cI, 108, .inl uv2)), (a8, .inl (cI, 108, .inl ui2)), (a9, .inl (cI, 108, .inl sk)), (a10, .inl (cI, 12, .inl ci)), (a12, .inl (cI, 522000, .inl sf)), (a13, .inl (cI, 9000, .inl fr)), (a14, .inl (cI, 9000, .inl bf)), (a15, .inl (cI, 9000, .inl nf)), (a16, .inl (cI, 12288, .inl hf)), (a17, .inl (cI, 3, .inl (fun j => nI (S j)))), (a18, .inl (cZ, 3, .inl ff)), (a19, .inl (cZ, 3, .inl df)), (a20, .inl (cI, 9000, .inl en)), (a21, .inl (cI, 3, .inl (fun j => nI (E j)))), (a22, .inl (cI, 58, .inl nw)), (a23, .inl (cI, 58, .inl mf)), (a24, .inl (cI, 2900, .inl hh)), (a40, .inl (cI, 12, .inl sp)), (a45, .inl (cI, 64, .inl rt)), (a48, .inl (cI, 2, .inl cu)), (a49, .inl (cI, 16, .inl spt)), (a51, .inl (cI, 13, .inl (fun j => nI (mv j)))), (h0, .inr (9, [.ref a0, .ref a1, .ref a2, .ref a3, .ref a4, .ref a5, .ref a6, .ref a7, .ref a8, .ref a9, .ref a10, .int ld, .ref a12, .ref a13, .ref a14, .ref a15, .ref a16, .ref a17, .ref a18, .ref a19, .ref a20, .ref a21, .ref a22, .ref a23, .ref a24, .int (nI dn), .int mo, .ref a27, .int (nI tz9), .int fk, .int fp, .int so, .int (nI bg), .int (nI ten), .long wd, .int (nI tk), .int sd, .int nb, .int np, .int pli, .ref a40, .int rc, .int rR, .int rW, .int rX, .ref a45, .int (nI rs), .int cm, .ref a48, .ref a49, .int (nI sno), .ref a51])), (a27, .inl (cB, 4000, .inl f9))] ++ w9) H := hP
  have hD : va_D A ([(a0, .inl (cI, 3, .inl (fun j => nI (C j)))), (a1, .inl (cI, 9, .inl (fun j => nI (Mn j)))), (a2, .inl (cI, 108, .inl kd)), (a3, .inl (cI, 108, .inl cl)), (a4, .inl (cI, 108, .inl rg)), (a5, .inl (cI, 108, .inl uv1)), (a6, .inl (cI, 108, .inl ui1)), (a7, .inl (cI, 108, .inl uv2)), (a8, .inl (cI, 108, .inl ui2)), (a9, .inl (cI, 108, .inl sk)), (a10, .inl (cI, 12, .inl ci)), (a12, .inl (cI, 522000, .inl sf)), (a13, .inl (cI, 9000, .inl fr)), (a14, .inl (cI, 9000, .inl bf)), (a15, .inl (cI, 9000, .inl nf)), (a16, .inl (cI, 12288, .inl hf)), (a17, .inl (cI, 3, .inl (fun j => nI (S j)))), (a18, .inl (cZ, 3, .inl ff)), (a19, .inl (cZ, 3, .inl df)), (a20, .inl (cI, 9000, .inl en)), (a21, .inl (cI, 3, .inl (fun j => nI (E j)))), (a22, .inl (cI, 58, .inl nw)), (a23, .inl (cI, 58, .inl mf)), (a24, .inl (cI, 2900, .inl hh)), (a40, .inl (cI, 12, .inl sp)), (a45, .inl (cI, 64, .inl rt)), (a48, .inl (cI, 2, .inl cu)), (a49, .inl (cI, 16, .inl spt)), (a51, .inl (cI, 13, .inl (fun j => nI (mv j)))), (h0, .inr (9, [.ref a0, .ref a1, .ref a2, .ref a3, .ref a4, .ref a5, .ref a6, .ref a7, .ref a8, .ref a9, .ref a10, .int ld, .ref a12, .ref a13, .ref a14, .ref a15, .ref a16, .ref a17, .ref a18, .ref a19, .ref a20, .ref a21, .ref a22, .ref a23, .ref a24, .int (nI dn), .int mo, .ref a27, .int (nI tz9), .int fk, .int fp, .int so, .int (nI bg), .int (nI ten), .long wd, .int (nI tk), .int sd, .int nb, .int np, .int pli, .ref a40, .int rc, .int rR, .int rW, .int rX, .ref a45, .int (nI rs), .int cm, .ref a48, .ref a49, .int (nI sno), .ref a51])), (a27, .inl (cB, 4000, .inl f9))] ++ w9) := hD
  have hP := gq_subP (X' := [(h0, .inr (9, [.ref a0, .ref a1, .ref a2, .ref a3, .ref a4, .ref a5, .ref a6, .ref a7, .ref a8, .ref a9, .ref a10, .int ld, .ref a12, .ref a13, .ref a14, .ref a15, .ref a16, .ref a17, .ref a18, .ref a19, .ref a20, .ref a21, .ref a22, .ref a23, .ref a24, .int (nI dn), .int mo, .ref a27, .int (nI tz9), .int fk, .int fp, .int so, .int (nI bg), .int (nI ten), .long wd, .int (nI tk), .int sd, .int nb, .int np, .int pli, .ref a40, .int rc, .int rR, .int rW, .int rX, .ref a45, .int (nI rs), .int cm, .ref a48, .ref a49, .int (nI sno), .ref a51])), (a0, .inl (cI, 3, .inl (fun j => nI (C j)))), (a1, .inl (cI, 9, .inl (fun j => nI (Mn j)))), (a2, .inl (cI, 108, .inl kd)), (a3, .inl (cI, 108, .inl cl)), (a4, .inl (cI, 108, .inl rg)), (a5, .inl (cI, 108, .inl uv1)), (a6, .inl (cI, 108, .inl ui1)), (a7, .inl (cI, 108, .inl uv2)), (a8, .inl (cI, 108, .inl ui2)), (a9, .inl (cI, 108, .inl sk)), (a10, .inl (cI, 12, .inl ci)), (a12, .inl (cI, 522000, .inl sf)), (a13, .inl (cI, 9000, .inl fr)), (a14, .inl (cI, 9000, .inl bf)), (a15, .inl (cI, 9000, .inl nf)), (a16, .inl (cI, 12288, .inl hf)), (a17, .inl (cI, 3, .inl (fun j => nI (S j)))), (a18, .inl (cZ, 3, .inl ff)), (a19, .inl (cZ, 3, .inl df)), (a20, .inl (cI, 9000, .inl en)), (a21, .inl (cI, 3, .inl (fun j => nI (E j)))), (a22, .inl (cI, 58, .inl nw)), (a23, .inl (cI, 58, .inl mf)), (a24, .inl (cI, 2900, .inl hh)), (a27, .inl (cB, 4000, .inl f9)), (a40, .inl (cI, 12, .inl sp)), (a45, .inl (cI, 64, .inl rt)), (a48, .inl (cI, 2, .inl cu)), (a49, .inl (cI, 16, .inl spt)), (a51, .inl (cI, 13, .inl (fun j => nI (mv j))))]) hP [29, 0, 1, 2, 3, 4, 5, 6, 7, 8, 9, 10, 11, 12, 13, 14, 15, 16, 17, 18, 19, 20, 21, 22, 23, 30, 24, 25, 26, 27, 28] rfl
  have hD := gq_subD (X' := [(h0, .inr (9, [.ref a0, .ref a1, .ref a2, .ref a3, .ref a4, .ref a5, .ref a6, .ref a7, .ref a8, .ref a9, .ref a10, .int ld, .ref a12, .ref a13, .ref a14, .ref a15, .ref a16, .ref a17, .ref a18, .ref a19, .ref a20, .ref a21, .ref a22, .ref a23, .ref a24, .int (nI dn), .int mo, .ref a27, .int (nI tz9), .int fk, .int fp, .int so, .int (nI bg), .int (nI ten), .long wd, .int (nI tk), .int sd, .int nb, .int np, .int pli, .ref a40, .int rc, .int rR, .int rW, .int rX, .ref a45, .int (nI rs), .int cm, .ref a48, .ref a49, .int (nI sno), .ref a51])), (a0, .inl (cI, 3, .inl (fun j => nI (C j)))), (a1, .inl (cI, 9, .inl (fun j => nI (Mn j)))), (a2, .inl (cI, 108, .inl kd)), (a3, .inl (cI, 108, .inl cl)), (a4, .inl (cI, 108, .inl rg)), (a5, .inl (cI, 108, .inl uv1)), (a6, .inl (cI, 108, .inl ui1)), (a7, .inl (cI, 108, .inl uv2)), (a8, .inl (cI, 108, .inl ui2)), (a9, .inl (cI, 108, .inl sk)), (a10, .inl (cI, 12, .inl ci)), (a12, .inl (cI, 522000, .inl sf)), (a13, .inl (cI, 9000, .inl fr)), (a14, .inl (cI, 9000, .inl bf)), (a15, .inl (cI, 9000, .inl nf)), (a16, .inl (cI, 12288, .inl hf)), (a17, .inl (cI, 3, .inl (fun j => nI (S j)))), (a18, .inl (cZ, 3, .inl ff)), (a19, .inl (cZ, 3, .inl df)), (a20, .inl (cI, 9000, .inl en)), (a21, .inl (cI, 3, .inl (fun j => nI (E j)))), (a22, .inl (cI, 58, .inl nw)), (a23, .inl (cI, 58, .inl mf)), (a24, .inl (cI, 2900, .inl hh)), (a27, .inl (cB, 4000, .inl f9)), (a40, .inl (cI, 12, .inl sp)), (a45, .inl (cI, 64, .inl rt)), (a48, .inl (cI, 2, .inl cu)), (a49, .inl (cI, 16, .inl spt)), (a51, .inl (cI, 13, .inl (fun j => nI (mv j))))]) hD [29, 0, 1, 2, 3, 4, 5, 6, 7, 8, 9, 10, 11, 12, 13, 14, 15, 16, 17, 18, 19, 20, 21, 22, 23, 30, 24, 25, 26, 27, 28] (by decide) rfl
  exact kk zm _ H locs (ModelI_mk cI cB cZ h0 tz9 f9 fp ld nc L cf pf vst vk vm vd a0 a1 a2 a3 a4 a5 a6 a7 a8 a9 a10 a12 a13 a14 a15 a16 a17 a18 a19 a20 a21 a22 a23 a24 a27 a40 a45 a48 a49 a51 C Mn kd cl rg uv1 ui1 uv2 ui2 sk ci sf fr bf nf hf S ff df en E nw mf hh sp rt cu spt mv dn mo fk so bg ten wd tk sd nb np pli rc rR rW rX rs cm sno (gFd_le hR.1 htp) hB hMo hAn hrs hcm hMP hMH) trivial hP hD hS
set_option maxHeartbeats 4000000 in
set_option maxRecDepth 100000 in
theorem md_back {p : Program} {l : Launch} {e : Env} {s : State} {m : MethodId} {below : List Frame} {meth : Method} {c : Code} {b : Nat} {A : Nat → Prop} {Q : State → Prop} {D : va_G} {cI cB cZ : ClassId} {K : gKS} (G : gL p s m c b A D cI cB cZ K) {H : Heap} {locs : List Loc} {ls : Array Slot} {w8 w9 : va_W} {h0 tz kc ns tz9 : Nat} {f f9 : Nat → Int32} {fp ld fp9 ld9 : Int32} {nc nc9 : Nat} {L L9 : Nat → Nat} {cf cf9 : Nat → Int32} {pf pf9 : Nat → Int32} {vst vst9 : Int32} {vk vk9 : Nat} {vm vm9 : Int32} {vd vd9 : Nat → Int32} (hkb : kc ≤ 20000 ∧ ns ≤ 2000000) (hH : ModelI cI cB cZ h0 w8 tz f fp ld nc L cf pf vst vk vm vd) (hP : va_P D vwCl (w8 ++ w9) H) (hD : va_D A (w8 ++ w9)) (hS : va_S A s.heap H locs) (hl : ls.size = 4 ∧ True) (z1 : Int32) (r8 : Int32) (hR : ((r8 = (-1) ∧ tz9 = tz ∧ (z1 < 0 ∨ ¬ z1 ≤ nI tz)) ∨ (∃ j, j ≤ tz ∧ z1 = nI j ∧ r8 = nI (tz - j) ∧ tz9 = tz - j)) ∧ f = f9 ∧ fp = fp9 ∧ ld = ld9 ∧ nc = nc9 ∧ L = L9 ∧ cf = cf9 ∧ pf = pf9 ∧ vst = vst9 ∧ vk = vk9 ∧ vm = vm9 ∧ vd = vd9) (kk : ∀ (r : Int32) (w8' : va_W) (H1 : Heap) (locs1 : List Loc), ModelI cI cB cZ h0 w8' tz9 f9 fp9 ld9 nc9 L9 cf9 pf9 vst9 vk9 vm9 vd9 → (True) → va_P D vwCl (w8' ++ w9) H1 → va_D A (w8' ++ w9) → va_S A s.heap H1 locs1 → W p l e room_1 s m #[Value.ref b] below meth c H1 locs1 kc ns Q (F0 m 214 ls [.int r])) : W p l e room_1 s m #[Value.ref b] below meth c H locs kc ns Q (F0 m 211 ls [.int z1, .ref h0]) := by
  obtain ⟨hx, hb, hml, hown, hts, hA, hK, hN, hE⟩ := G
  unfold ModelI at hH
  obtain ⟨a0, hH⟩ := hH
  obtain ⟨a1, hH⟩ := hH
  obtain ⟨a2, hH⟩ := hH
  obtain ⟨a3, hH⟩ := hH
  obtain ⟨a4, hH⟩ := hH
  obtain ⟨a5, hH⟩ := hH
  obtain ⟨a6, hH⟩ := hH
  obtain ⟨a7, hH⟩ := hH
  obtain ⟨a8, hH⟩ := hH
  obtain ⟨a9, hH⟩ := hH
  obtain ⟨a10, hH⟩ := hH
  obtain ⟨a12, hH⟩ := hH
  obtain ⟨a13, hH⟩ := hH
  obtain ⟨a14, hH⟩ := hH
  obtain ⟨a15, hH⟩ := hH
  obtain ⟨a16, hH⟩ := hH
  obtain ⟨a17, hH⟩ := hH
  obtain ⟨a18, hH⟩ := hH
  obtain ⟨a19, hH⟩ := hH
  obtain ⟨a20, hH⟩ := hH
  obtain ⟨a21, hH⟩ := hH
  obtain ⟨a22, hH⟩ := hH
  obtain ⟨a23, hH⟩ := hH
  obtain ⟨a24, hH⟩ := hH
  obtain ⟨a27, hH⟩ := hH
  obtain ⟨a40, hH⟩ := hH
  obtain ⟨a45, hH⟩ := hH
  obtain ⟨a48, hH⟩ := hH
  obtain ⟨a49, hH⟩ := hH
  obtain ⟨a51, hH⟩ := hH
  obtain ⟨C, hH⟩ := hH
  obtain ⟨Mn, hH⟩ := hH
  obtain ⟨kd, hH⟩ := hH
  obtain ⟨cl, hH⟩ := hH
  obtain ⟨rg, hH⟩ := hH
  obtain ⟨uv1, hH⟩ := hH
  obtain ⟨ui1, hH⟩ := hH
  obtain ⟨uv2, hH⟩ := hH
  obtain ⟨ui2, hH⟩ := hH
  obtain ⟨sk, hH⟩ := hH
  obtain ⟨ci, hH⟩ := hH
  obtain ⟨sf, hH⟩ := hH
  obtain ⟨fr, hH⟩ := hH
  obtain ⟨bf, hH⟩ := hH
  obtain ⟨nf, hH⟩ := hH
  obtain ⟨hf, hH⟩ := hH
  obtain ⟨S, hH⟩ := hH
  obtain ⟨ff, hH⟩ := hH
  obtain ⟨df, hH⟩ := hH
  obtain ⟨en, hH⟩ := hH
  obtain ⟨E, hH⟩ := hH
  obtain ⟨nw, hH⟩ := hH
  obtain ⟨mf, hH⟩ := hH
  obtain ⟨hh, hH⟩ := hH
  obtain ⟨sp, hH⟩ := hH
  obtain ⟨rt, hH⟩ := hH
  obtain ⟨cu, hH⟩ := hH
  obtain ⟨spt, hH⟩ := hH
  obtain ⟨mv, hH⟩ := hH
  obtain ⟨dn, hH⟩ := hH
  obtain ⟨mo, hH⟩ := hH
  obtain ⟨fk, hH⟩ := hH
  obtain ⟨so, hH⟩ := hH
  obtain ⟨bg, hH⟩ := hH
  obtain ⟨ten, hH⟩ := hH
  obtain ⟨wd, hH⟩ := hH
  obtain ⟨tk, hH⟩ := hH
  obtain ⟨sd, hH⟩ := hH
  obtain ⟨nb, hH⟩ := hH
  obtain ⟨np, hH⟩ := hH
  obtain ⟨pli, hH⟩ := hH
  obtain ⟨rc, hH⟩ := hH
  obtain ⟨rR, hH⟩ := hH
  obtain ⟨rW, hH⟩ := hH
  obtain ⟨rX, hH⟩ := hH
  obtain ⟨rs, hH⟩ := hH
  obtain ⟨cm, hH⟩ := hH
  obtain ⟨sno, hH⟩ := hH
  obtain ⟨htp, hH⟩ := hH
  obtain ⟨hB, hH⟩ := hH
  obtain ⟨hMo, hH⟩ := hH
  obtain ⟨hAn, hH⟩ := hH
  obtain ⟨hrs, hH⟩ := hH
  obtain ⟨hcm, hH⟩ := hH
  obtain ⟨hMP, hH⟩ := hH
  obtain ⟨hMH, hH⟩ := hH
  subst hH
  obtain ⟨-, e1, e2, e3, e4, e5, e6, e7, e8, e9, e10, e11⟩ := id hR
  subst e1; subst e2; subst e3; subst e4; subst e5; subst e6; subst e7; subst e8; subst e9; subst e10; subst e11
  refine gq_goi (wc := [(h0, .inr (9, [.ref a0, .ref a1, .ref a2, .ref a3, .ref a4, .ref a5, .ref a6, .ref a7, .ref a8, .ref a9, .ref a10, .int ld, .ref a12, .ref a13, .ref a14, .ref a15, .ref a16, .ref a17, .ref a18, .ref a19, .ref a20, .ref a21, .ref a22, .ref a23, .ref a24, .int (nI dn), .int mo, .ref a27, .int (nI tz), .int fk, .int fp, .int so, .int (nI bg), .int (nI ten), .long wd, .int (nI tk), .int sd, .int nb, .int np, .int pli, .ref a40, .int rc, .int rR, .int rW, .int rX, .ref a45, .int (nI rs), .int cm, .ref a48, .ref a49, .int (nI sno), .ref a51]))]) (wr := [(a0, .inl (cI, 3, .inl (fun j => nI (C j)))), (a1, .inl (cI, 9, .inl (fun j => nI (Mn j)))), (a2, .inl (cI, 108, .inl kd)), (a3, .inl (cI, 108, .inl cl)), (a4, .inl (cI, 108, .inl rg)), (a5, .inl (cI, 108, .inl uv1)), (a6, .inl (cI, 108, .inl ui1)), (a7, .inl (cI, 108, .inl uv2)), (a8, .inl (cI, 108, .inl ui2)), (a9, .inl (cI, 108, .inl sk)), (a10, .inl (cI, 12, .inl ci)), (a12, .inl (cI, 522000, .inl sf)), (a13, .inl (cI, 9000, .inl fr)), (a14, .inl (cI, 9000, .inl bf)), (a15, .inl (cI, 9000, .inl nf)), (a16, .inl (cI, 12288, .inl hf)), (a17, .inl (cI, 3, .inl (fun j => nI (S j)))), (a18, .inl (cZ, 3, .inl ff)), (a19, .inl (cZ, 3, .inl df)), (a20, .inl (cI, 9000, .inl en)), (a21, .inl (cI, 3, .inl (fun j => nI (E j)))), (a22, .inl (cI, 58, .inl nw)), (a23, .inl (cI, 58, .inl mf)), (a24, .inl (cI, 2900, .inl hh)), (a27, .inl (cB, 4000, .inl f)), (a40, .inl (cI, 12, .inl sp)), (a45, .inl (cI, 64, .inl rt)), (a48, .inl (cI, 2, .inl cu)), (a49, .inl (cI, 16, .inl spt)), (a51, .inl (cI, 13, .inl (fun j => nI (mv j))))]) (va_runV (As := [.int z1]) (rest := []) ⟨hx, hb, hml, hown, hts⟩ (c_X9_back l D cI cB cZ h0 (.ref a0) (.ref a1) (.ref a2) (.ref a3) (.ref a4) (.ref a5) (.ref a6) (.ref a7) (.ref a8) (.ref a9) (.ref a10) (.int ld) (.ref a12) (.ref a13) (.ref a14) (.ref a15) (.ref a16) (.ref a17) (.ref a18) (.ref a19) (.ref a20) (.ref a21) (.ref a22) (.ref a23) (.ref a24) (.int (nI dn)) (.int mo) (.ref a27) (.int fk) (.int fp) (.int so) (.int (nI bg)) (.int (nI ten)) (.long wd) (.int (nI tk)) (.int sd) (.int nb) (.int np) (.int pli) (.ref a40) (.int rc) (.int rR) (.int rW) (.int rX) (.ref a45) (.int (nI rs)) (.int cm) (.ref a48) (.ref a49) (.int (nI sno)) (.ref a51) tz z1 htp _) (cwV 1 hts gP_law__c_X9_back rfl rfl rfl (by decide +kernel) ⟨Nat.le_of_ble_eq_true rfl, Nat.le_of_ble_eq_true rfl⟩) (gx_preV (ci := 9) (q0 := 0) hK gN.nil (gq_Pl hP) (gq_Dl hD) [0] rfl rfl rfl rfl) rfl rfl hl.1 rfl (lv_room (Nat.le_of_ble_eq_true rfl)) dL_law_211 ⟨(Nat.le_trans (Nat.add_le_add_right hkb.1 _) (Nat.le_of_ble_eq_true rfl)), (Nat.le_trans (Nat.add_le_add_right hkb.2 _) (Nat.le_of_ble_eq_true rfl))⟩) hP hD hS hA [0] [1, 2, 3, 4, 5, 6, 7, 8, 9, 10, 11, 12, 13, 14, 15, 16, 17, 18, 19, 20, 21, 22, 23, 24, 25, 26, 27, 28, 29, 30] rfl rfl rfl (by decide) (fun r1 w1 H locs hp hP hD hS => ?_)
  obtain ⟨zm, hp⟩ := hp
  obtain ⟨mm, hp⟩ := hp
  obtain ⟨hq_1, hp⟩ := hp
  obtain ⟨h9, hp⟩ := hp
  subst hp
  have h9 := h9.symm
  subst h9
  have hq_1 : (zm = (-1) ∧ mm = tz ∧ (z1 < 0 ∨ ¬ z1 ≤ nI tz)) ∨ (∃ j, j ≤ tz ∧ z1 = nI j ∧ zm = nI (tz - j) ∧ mm = tz - j) := hq_1
  have hP : va_P D vwCl ([(a0, .inl (cI, 3, .inl (fun j => nI (C j)))), (a1, .inl (cI, 9, .inl (fun j => nI (Mn j)))), (a2, .inl (cI, 108, .inl kd)), (a3, .inl (cI, 108, .inl cl)), (a4, .inl (cI, 108, .inl rg)), (a5, .inl (cI, 108, .inl uv1)), (a6, .inl (cI, 108, .inl ui1)), (a7, .inl (cI, 108, .inl uv2)), (a8, .inl (cI, 108, .inl ui2)), (a9, .inl (cI, 108, .inl sk)), (a10, .inl (cI, 12, .inl ci)), (a12, .inl (cI, 522000, .inl sf)), (a13, .inl (cI, 9000, .inl fr)), (a14, .inl (cI, 9000, .inl bf)), (a15, .inl (cI, 9000, .inl nf)), (a16, .inl (cI, 12288, .inl hf)), (a17, .inl (cI, 3, .inl (fun j => nI (S j)))), (a18, .inl (cZ, 3, .inl ff)), (a19, .inl (cZ, 3, .inl df)), (a20, .inl (cI, 9000, .inl en)), (a21, .inl (cI, 3, .inl (fun j => nI (E j)))), (a22, .inl (cI, 58, .inl nw)), (a23, .inl (cI, 58, .inl mf)), (a24, .inl (cI, 2900, .inl hh)), (a27, .inl (cB, 4000, .inl f)), (a40, .inl (cI, 12, .inl sp)), (a45, .inl (cI, 64, .inl rt)), (a48, .inl (cI, 2, .inl cu)), (a49, .inl (cI, 16, .inl spt)), (a51, .inl (cI, 13, .inl (fun j => nI (mv j)))), (h0, .inr (9, [.ref a0, .ref a1, .ref a2, .ref a3, .ref a4, .ref a5, .ref a6, .ref a7, .ref a8, .ref a9, .ref a10, .int ld, .ref a12, .ref a13, .ref a14, .ref a15, .ref a16, .ref a17, .ref a18, .ref a19, .ref a20, .ref a21, .ref a22, .ref a23, .ref a24, .int (nI dn), .int mo, .ref a27, .int (nI mm), .int fk, .int fp, .int so, .int (nI bg), .int (nI ten), .long wd, .int (nI tk), .int sd, .int nb, .int np, .int pli, .ref a40, .int rc, .int rR, .int rW, .int rX, .ref a45, .int (nI rs), .int cm, .ref a48, .ref a49, .int (nI sno), .ref a51]))] ++ w9) H := hP
  have hD : va_D A ([(a0, .inl (cI, 3, .inl (fun j => nI (C j)))), (a1, .inl (cI, 9, .inl (fun j => nI (Mn j)))), (a2, .inl (cI, 108, .inl kd)), (a3, .inl (cI, 108, .inl cl)), (a4, .inl (cI, 108, .inl rg)), (a5, .inl (cI, 108, .inl uv1)), (a6, .inl (cI, 108, .inl ui1)), (a7, .inl (cI, 108, .inl uv2)), (a8, .inl (cI, 108, .inl ui2)), (a9, .inl (cI, 108, .inl sk)), (a10, .inl (cI, 12, .inl ci)), (a12, .inl (cI, 522000, .inl sf)), (a13, .inl (cI, 9000, .inl fr)), (a14, .inl (cI, 9000, .inl bf)), (a15, .inl (cI, 9000, .inl nf)), (a16, .inl (cI, 12288, .inl hf)), (a17, .inl (cI, 3, .inl (fun j => nI (S j)))), (a18, .inl (cZ, 3, .inl ff)), (a19, .inl (cZ, 3, .inl df)), (a20, .inl (cI, 9000, .inl en)), (a21, .inl (cI, 3, .inl (fun j => nI (E j)))), (a22, .inl (cI, 58, .inl nw)), (a23, .inl (cI, 58, .inl mf)), (a24, .inl (cI, 2900, .inl hh)), (a27, .inl (cB, 4000, .inl f)), (a40, .inl (cI, 12, .inl sp)), (a45, .inl (cI, 64, .inl rt)), (a48, .inl (cI, 2, .inl cu)), (a49, .inl (cI, 16, .inl spt)), (a51, .inl (cI, 13, .inl (fun j => nI (mv j)))), (h0, .inr (9, [.ref a0, .ref a1, .ref a2, .ref a3, .ref a4, .ref a5, .ref a6, .ref a7, .ref a8, .ref a9, .ref a10, .int ld, .ref a12, .ref a13, .ref a14, .ref a15, .ref a16, .ref a17, .ref a18, .ref a19, .ref a20, .ref a21, .ref a22, .ref a23, .ref a24, .int (nI dn), .int mo, .ref a27, .int (nI mm), .int fk, .int fp, .int so, .int (nI bg), .int (nI ten), .long wd, .int (nI tk), .int sd, .int nb, .int np, .int pli, .ref a40, .int rc, .int rR, .int rW, .int rX, .ref a45, .int (nI rs), .int cm, .ref a48, .ref a49, .int (nI sno), .ref a51]))] ++ w9) := hD
  refine W.widen (k := kc) (n := ns) (Nat.le_refl _) (Nat.le_refl _) ?_
  have hba := bk_er htp hR.1 hq_1
  have hbb := bk_eq htp hR.1 hq_1
  subst hbb
  have hP : va_P D vwCl ([(a0, .inl (cI, 3, .inl (fun j => nI (C j)))), (a1, .inl (cI, 9, .inl (fun j => nI (Mn j)))), (a2, .inl (cI, 108, .inl kd)), (a3, .inl (cI, 108, .inl cl)), (a4, .inl (cI, 108, .inl rg)), (a5, .inl (cI, 108, .inl uv1)), (a6, .inl (cI, 108, .inl ui1)), (a7, .inl (cI, 108, .inl uv2)), (a8, .inl (cI, 108, .inl ui2)), (a9, .inl (cI, 108, .inl sk)), (a10, .inl (cI, 12, .inl ci)), (a12, .inl (cI, 522000, .inl sf)), (a13, .inl (cI, 9000, .inl fr)), (a14, .inl (cI, 9000, .inl bf)), (a15, .inl (cI, 9000, .inl nf)), (a16, .inl (cI, 12288, .inl hf)), (a17, .inl (cI, 3, .inl (fun j => nI (S j)))), (a18, .inl (cZ, 3, .inl ff)), (a19, .inl (cZ, 3, .inl df)), (a20, .inl (cI, 9000, .inl en)), (a21, .inl (cI, 3, .inl (fun j => nI (E j)))), (a22, .inl (cI, 58, .inl nw)), (a23, .inl (cI, 58, .inl mf)), (a24, .inl (cI, 2900, .inl hh)), (a27, .inl (cB, 4000, .inl f)), (a40, .inl (cI, 12, .inl sp)), (a45, .inl (cI, 64, .inl rt)), (a48, .inl (cI, 2, .inl cu)), (a49, .inl (cI, 16, .inl spt)), (a51, .inl (cI, 13, .inl (fun j => nI (mv j)))), (h0, .inr (9, [.ref a0, .ref a1, .ref a2, .ref a3, .ref a4, .ref a5, .ref a6, .ref a7, .ref a8, .ref a9, .ref a10, .int ld, .ref a12, .ref a13, .ref a14, .ref a15, .ref a16, .ref a17, .ref a18, .ref a19, .ref a20, .ref a21, .ref a22, .ref a23, .ref a24, .int (nI dn), .int mo, .ref a27, .int (nI tz9), .int fk, .int fp, .int so, .int (nI bg), .int (nI ten), .long wd, .int (nI tk), .int sd, .int nb, .int np, .int pli, .ref a40, .int rc, .int rR, .int rW, .int rX, .ref a45, .int (nI rs), .int cm, .ref a48, .ref a49, .int (nI sno), .ref a51]))] ++ w9) H := hP
  have hD : va_D A ([(a0, .inl (cI, 3, .inl (fun j => nI (C j)))), (a1, .inl (cI, 9, .inl (fun j => nI (Mn j)))), (a2, .inl (cI, 108, .inl kd)), (a3, .inl (cI, 108, .inl cl)), (a4, .inl (cI, 108, .inl rg)), (a5, .inl (cI, 108, .inl uv1)), (a6, .inl (cI, 108, .inl ui1)), (a7, .inl (cI, 108, .inl uv2)), (a8, .inl (cI, 108, .inl ui2)), (a9, .inl (cI, 108, .inl sk)), (a10, .inl (cI, 12, .inl ci)), (a12, .inl (cI, 522000, .inl sf)), (a13, .inl (cI, 9000, .inl fr)), (a14, .inl (cI, 9000, .inl bf)), (a15, .inl (cI, 9000, .inl nf)), (a16, .inl (cI, 12288, .inl hf)), (a17, .inl (cI, 3, .inl (fun j => nI (S j)))), (a18, .inl (cZ, 3, .inl ff)), (a19, .inl (cZ, 3, .inl df)), (a20, .inl (cI, 9000, .inl en)), (a21, .inl (cI, 3, .inl (fun j => nI (E j)))), (a22, .inl (cI, 58, .inl nw)), (a23, .inl (cI, 58, .inl mf)), (a24, .inl (cI, 2900, .inl hh)), (a27, .inl (cB, 4000, .inl f)), (a40, .inl (cI, 12, .inl sp)), (a45, .inl (cI, 64, .inl rt)), (a48, .inl (cI, 2, .inl cu)), (a49, .inl (cI, 16, .inl spt)), (a51, .inl (cI, 13, .inl (fun j => nI (mv j)))), (h0, .inr (9, [.ref a0, .ref a1, .ref a2, .ref a3, .ref a4, .ref a5, .ref a6, .ref a7, .ref a8, .ref a9, .ref a10, .int ld, .ref a12, .ref a13, .ref a14, .ref a15, .ref a16, .ref a17, .ref a18, .ref a19, .ref a20, .ref a21, .ref a22, .ref a23, .ref a24, .int (nI dn), .int mo, .ref a27, .int (nI tz9), .int fk, .int fp, .int so, .int (nI bg), .int (nI ten), .long wd, .int (nI tk), .int sd, .int nb, .int np, .int pli, .ref a40, .int rc, .int rR, .int rW, .int rX, .ref a45, .int (nI rs), .int cm, .ref a48, .ref a49, .int (nI sno), .ref a51]))] ++ w9) := hD
  have hP := gq_subP (X' := [(h0, .inr (9, [.ref a0, .ref a1, .ref a2, .ref a3, .ref a4, .ref a5, .ref a6, .ref a7, .ref a8, .ref a9, .ref a10, .int ld, .ref a12, .ref a13, .ref a14, .ref a15, .ref a16, .ref a17, .ref a18, .ref a19, .ref a20, .ref a21, .ref a22, .ref a23, .ref a24, .int (nI dn), .int mo, .ref a27, .int (nI tz9), .int fk, .int fp, .int so, .int (nI bg), .int (nI ten), .long wd, .int (nI tk), .int sd, .int nb, .int np, .int pli, .ref a40, .int rc, .int rR, .int rW, .int rX, .ref a45, .int (nI rs), .int cm, .ref a48, .ref a49, .int (nI sno), .ref a51])), (a0, .inl (cI, 3, .inl (fun j => nI (C j)))), (a1, .inl (cI, 9, .inl (fun j => nI (Mn j)))), (a2, .inl (cI, 108, .inl kd)), (a3, .inl (cI, 108, .inl cl)), (a4, .inl (cI, 108, .inl rg)), (a5, .inl (cI, 108, .inl uv1)), (a6, .inl (cI, 108, .inl ui1)), (a7, .inl (cI, 108, .inl uv2)), (a8, .inl (cI, 108, .inl ui2)), (a9, .inl (cI, 108, .inl sk)), (a10, .inl (cI, 12, .inl ci)), (a12, .inl (cI, 522000, .inl sf)), (a13, .inl (cI, 9000, .inl fr)), (a14, .inl (cI, 9000, .inl bf)), (a15, .inl (cI, 9000, .inl nf)), (a16, .inl (cI, 12288, .inl hf)), (a17, .inl (cI, 3, .inl (fun j => nI (S j)))), (a18, .inl (cZ, 3, .inl ff)), (a19, .inl (cZ, 3, .inl df)), (a20, .inl (cI, 9000, .inl en)), (a21, .inl (cI, 3, .inl (fun j => nI (E j)))), (a22, .inl (cI, 58, .inl nw)), (a23, .inl (cI, 58, .inl mf)), (a24, .inl (cI, 2900, .inl hh)), (a27, .inl (cB, 4000, .inl f)), (a40, .inl (cI, 12, .inl sp)), (a45, .inl (cI, 64, .inl rt)), (a48, .inl (cI, 2, .inl cu)), (a49, .inl (cI, 16, .inl spt)), (a51, .inl (cI, 13, .inl (fun j => nI (mv j))))]) hP [30, 0, 1, 2, 3, 4, 5, 6, 7, 8, 9, 10, 11, 12, 13, 14, 15, 16, 17, 18, 19, 20, 21, 22, 23, 24, 25, 26, 27, 28, 29] rfl
  have hD := gq_subD (X' := [(h0, .inr (9, [.ref a0, .ref a1, .ref a2, .ref a3, .ref a4, .ref a5, .ref a6, .ref a7, .ref a8, .ref a9, .ref a10, .int ld, .ref a12, .ref a13, .ref a14, .ref a15, .ref a16, .ref a17, .ref a18, .ref a19, .ref a20, .ref a21, .ref a22, .ref a23, .ref a24, .int (nI dn), .int mo, .ref a27, .int (nI tz9), .int fk, .int fp, .int so, .int (nI bg), .int (nI ten), .long wd, .int (nI tk), .int sd, .int nb, .int np, .int pli, .ref a40, .int rc, .int rR, .int rW, .int rX, .ref a45, .int (nI rs), .int cm, .ref a48, .ref a49, .int (nI sno), .ref a51])), (a0, .inl (cI, 3, .inl (fun j => nI (C j)))), (a1, .inl (cI, 9, .inl (fun j => nI (Mn j)))), (a2, .inl (cI, 108, .inl kd)), (a3, .inl (cI, 108, .inl cl)), (a4, .inl (cI, 108, .inl rg)), (a5, .inl (cI, 108, .inl uv1)), (a6, .inl (cI, 108, .inl ui1)), (a7, .inl (cI, 108, .inl uv2)), (a8, .inl (cI, 108, .inl ui2)), (a9, .inl (cI, 108, .inl sk)), (a10, .inl (cI, 12, .inl ci)), (a12, .inl (cI, 522000, .inl sf)), (a13, .inl (cI, 9000, .inl fr)), (a14, .inl (cI, 9000, .inl bf)), (a15, .inl (cI, 9000, .inl nf)), (a16, .inl (cI, 12288, .inl hf)), (a17, .inl (cI, 3, .inl (fun j => nI (S j)))), (a18, .inl (cZ, 3, .inl ff)), (a19, .inl (cZ, 3, .inl df)), (a20, .inl (cI, 9000, .inl en)), (a21, .inl (cI, 3, .inl (fun j => nI (E j)))), (a22, .inl (cI, 58, .inl nw)), (a23, .inl (cI, 58, .inl mf)), (a24, .inl (cI, 2900, .inl hh)), (a27, .inl (cB, 4000, .inl f)), (a40, .inl (cI, 12, .inl sp)), (a45, .inl (cI, 64, .inl rt)), (a48, .inl (cI, 2, .inl cu)), (a49, .inl (cI, 16, .inl spt)), (a51, .inl (cI, 13, .inl (fun j => nI (mv j))))]) hD [30, 0, 1, 2, 3, 4, 5, 6, 7, 8, 9, 10, 11, 12, 13, 14, 15, 16, 17, 18, 19, 20, 21, 22, 23, 24, 25, 26, 27, 28, 29] (by decide) rfl
  exact kk zm _ H locs (ModelI_mk cI cB cZ h0 tz9 f fp ld nc L cf pf vst vk vm vd a0 a1 a2 a3 a4 a5 a6 a7 a8 a9 a10 a12 a13 a14 a15 a16 a17 a18 a19 a20 a21 a22 a23 a24 a27 a40 a45 a48 a49 a51 C Mn kd cl rg uv1 ui1 uv2 ui2 sk ci sf fr bf nf hf S ff df en E nw mf hh sp rt cu spt mv dn mo fk so bg ten wd tk sd nb np pli rc rR rW rX rs cm sno (gBk_le htp hR.1) hB hMo hAn hrs hcm hMP hMH) trivial hP hD hS
set_option maxHeartbeats 4000000 in
set_option maxRecDepth 100000 in
theorem md_read {p : Program} {l : Launch} {e : Env} {s : State} {m : MethodId} {below : List Frame} {meth : Method} {c : Code} {b : Nat} {A : Nat → Prop} {Q : State → Prop} {D : va_G} {cI cB cZ : ClassId} {K : gKS} (G : gL p s m c b A D cI cB cZ K) {H : Heap} {locs : List Loc} {ls : Array Slot} {w8 w9 : va_W} {h0 tz kc ns tz9 : Nat} {f f9 : Nat → Int32} {fp ld fp9 ld9 : Int32} {nc nc9 : Nat} {L L9 : Nat → Nat} {cf cf9 : Nat → Int32} {pf pf9 : Nat → Int32} {vst vst9 : Int32} {vk vk9 : Nat} {vm vm9 : Int32} {vd vd9 : Nat → Int32} (hkb : kc ≤ 20000 ∧ ns ≤ 2000000) (hH : ModelI cI cB cZ h0 w8 tz f fp ld nc L cf pf vst vk vm vd) (hP : va_P D vwCl (w8 ++ w9) H) (hD : va_D A (w8 ++ w9)) (hS : va_S A s.heap H locs) (hl : ls.size = 4 ∧ True) (r8 : Int32) (hR : tz9 = 0 ∧ f = f9 ∧ vk = vk9 ∧ vm = vm9 ∧ vd = vd9 ∧ ∃ (Kd : Nat → Nat) (sf nf : Nat → Int32) (E : Nat → Nat) (Q : Nat → Int32) (Tk : Nat → Nat), gTS f tz Kd sf nf E ∧ rRes (rTx Kd sf nf Q Tk) sf r8 fp9 ∧ ((r8 = 0 ∧ ld9 = 1 ∧ rPrg (rTx Kd sf nf Q Tk) nc9 pf9 L9 cf9 ∧ vst9 = 0) ∨ (¬ r8 = 0 ∧ ld9 = ld ∧ nc = nc9 ∧ L = L9 ∧ cf = cf9 ∧ pf = pf9 ∧ vst = vst9))) (kk : ∀ (r : Int32) (w8' : va_W) (H1 : Heap) (locs1 : List Loc), ModelI cI cB cZ h0 w8' tz9 f9 fp9 ld9 nc9 L9 cf9 pf9 vst9 vk9 vm9 vd9 → (True) → va_P D vwCl (w8' ++ w9) H1 → va_D A (w8' ++ w9) → va_S A s.heap H1 locs1 → W p l e room_1 s m #[Value.ref b] below meth c H1 locs1 kc ns Q (F0 m 227 ls [.int r])) : W p l e room_1 s m #[Value.ref b] below meth c H locs kc ns Q (F0 m 224 ls [.ref h0]) := by
  obtain ⟨hx, hb, hml, hown, hts, hA, hK, hN, hE⟩ := G
  unfold ModelI at hH
  obtain ⟨a0, hH⟩ := hH
  obtain ⟨a1, hH⟩ := hH
  obtain ⟨a2, hH⟩ := hH
  obtain ⟨a3, hH⟩ := hH
  obtain ⟨a4, hH⟩ := hH
  obtain ⟨a5, hH⟩ := hH
  obtain ⟨a6, hH⟩ := hH
  obtain ⟨a7, hH⟩ := hH
  obtain ⟨a8, hH⟩ := hH
  obtain ⟨a9, hH⟩ := hH
  obtain ⟨a10, hH⟩ := hH
  obtain ⟨a12, hH⟩ := hH
  obtain ⟨a13, hH⟩ := hH
  obtain ⟨a14, hH⟩ := hH
  obtain ⟨a15, hH⟩ := hH
  obtain ⟨a16, hH⟩ := hH
  obtain ⟨a17, hH⟩ := hH
  obtain ⟨a18, hH⟩ := hH
  obtain ⟨a19, hH⟩ := hH
  obtain ⟨a20, hH⟩ := hH
  obtain ⟨a21, hH⟩ := hH
  obtain ⟨a22, hH⟩ := hH
  obtain ⟨a23, hH⟩ := hH
  obtain ⟨a24, hH⟩ := hH
  obtain ⟨a27, hH⟩ := hH
  obtain ⟨a40, hH⟩ := hH
  obtain ⟨a45, hH⟩ := hH
  obtain ⟨a48, hH⟩ := hH
  obtain ⟨a49, hH⟩ := hH
  obtain ⟨a51, hH⟩ := hH
  obtain ⟨C, hH⟩ := hH
  obtain ⟨Mn, hH⟩ := hH
  obtain ⟨kd, hH⟩ := hH
  obtain ⟨cl, hH⟩ := hH
  obtain ⟨rg, hH⟩ := hH
  obtain ⟨uv1, hH⟩ := hH
  obtain ⟨ui1, hH⟩ := hH
  obtain ⟨uv2, hH⟩ := hH
  obtain ⟨ui2, hH⟩ := hH
  obtain ⟨sk, hH⟩ := hH
  obtain ⟨ci, hH⟩ := hH
  obtain ⟨sf, hH⟩ := hH
  obtain ⟨fr, hH⟩ := hH
  obtain ⟨bf, hH⟩ := hH
  obtain ⟨nf, hH⟩ := hH
  obtain ⟨hf, hH⟩ := hH
  obtain ⟨S, hH⟩ := hH
  obtain ⟨ff, hH⟩ := hH
  obtain ⟨df, hH⟩ := hH
  obtain ⟨en, hH⟩ := hH
  obtain ⟨E, hH⟩ := hH
  obtain ⟨nw, hH⟩ := hH
  obtain ⟨mf, hH⟩ := hH
  obtain ⟨hh, hH⟩ := hH
  obtain ⟨sp, hH⟩ := hH
  obtain ⟨rt, hH⟩ := hH
  obtain ⟨cu, hH⟩ := hH
  obtain ⟨spt, hH⟩ := hH
  obtain ⟨mv, hH⟩ := hH
  obtain ⟨dn, hH⟩ := hH
  obtain ⟨mo, hH⟩ := hH
  obtain ⟨fk, hH⟩ := hH
  obtain ⟨so, hH⟩ := hH
  obtain ⟨bg, hH⟩ := hH
  obtain ⟨ten, hH⟩ := hH
  obtain ⟨wd, hH⟩ := hH
  obtain ⟨tk, hH⟩ := hH
  obtain ⟨sd, hH⟩ := hH
  obtain ⟨nb, hH⟩ := hH
  obtain ⟨np, hH⟩ := hH
  obtain ⟨pli, hH⟩ := hH
  obtain ⟨rc, hH⟩ := hH
  obtain ⟨rR, hH⟩ := hH
  obtain ⟨rW, hH⟩ := hH
  obtain ⟨rX, hH⟩ := hH
  obtain ⟨rs, hH⟩ := hH
  obtain ⟨cm, hH⟩ := hH
  obtain ⟨sno, hH⟩ := hH
  obtain ⟨htp, hH⟩ := hH
  obtain ⟨hB, hH⟩ := hH
  obtain ⟨hMo, hH⟩ := hH
  obtain ⟨hAn, hH⟩ := hH
  obtain ⟨hrs, hH⟩ := hH
  obtain ⟨hcm, hH⟩ := hH
  obtain ⟨hMP, hH⟩ := hH
  obtain ⟨hMH, hH⟩ := hH
  subst hH
  obtain ⟨e1, e2, e3, e4, e5, Kq, sq, nq, Ezq, Qq, Tq, hTS, hRs, hLd⟩ := hR
  subst e1; subst e2; subst e3; subst e4; subst e5
  refine gq_goi (wc := [(h0, .inr (9, [.ref a0, .ref a1, .ref a2, .ref a3, .ref a4, .ref a5, .ref a6, .ref a7, .ref a8, .ref a9, .ref a10, .int ld, .ref a12, .ref a13, .ref a14, .ref a15, .ref a16, .ref a17, .ref a18, .ref a19, .ref a20, .ref a21, .ref a22, .ref a23, .ref a24, .int (nI dn), .int mo, .ref a27, .int (nI tz), .int fk, .int fp, .int so, .int (nI bg), .int (nI ten), .long wd, .int (nI tk), .int sd, .int nb, .int np, .int pli, .ref a40, .int rc, .int rR, .int rW, .int rX, .ref a45, .int (nI rs), .int cm, .ref a48, .ref a49, .int (nI sno), .ref a51])), (a27, .inl (cB, 4000, .inl f)), (a2, .inl (cI, 108, .inl kd)), (a3, .inl (cI, 108, .inl cl)), (a4, .inl (cI, 108, .inl rg)), (a5, .inl (cI, 108, .inl uv1)), (a6, .inl (cI, 108, .inl ui1)), (a7, .inl (cI, 108, .inl uv2)), (a8, .inl (cI, 108, .inl ui2)), (a9, .inl (cI, 108, .inl sk)), (a40, .inl (cI, 12, .inl sp)), (a0, .inl (cI, 3, .inl (fun j => nI (C j)))), (a1, .inl (cI, 9, .inl (fun j => nI (Mn j)))), (a10, .inl (cI, 12, .inl ci)), (a19, .inl (cZ, 3, .inl df))]) (wr := [(a12, .inl (cI, 522000, .inl sf)), (a13, .inl (cI, 9000, .inl fr)), (a14, .inl (cI, 9000, .inl bf)), (a15, .inl (cI, 9000, .inl nf)), (a16, .inl (cI, 12288, .inl hf)), (a17, .inl (cI, 3, .inl (fun j => nI (S j)))), (a18, .inl (cZ, 3, .inl ff)), (a20, .inl (cI, 9000, .inl en)), (a21, .inl (cI, 3, .inl (fun j => nI (E j)))), (a22, .inl (cI, 58, .inl nw)), (a23, .inl (cI, 58, .inl mf)), (a24, .inl (cI, 2900, .inl hh)), (a45, .inl (cI, 64, .inl rt)), (a48, .inl (cI, 2, .inl cu)), (a49, .inl (cI, 16, .inl spt)), (a51, .inl (cI, 13, .inl (fun j => nI (mv j))))]) (va_runV (As := []) (rest := []) ⟨hx, hb, hml, hown, hts⟩ (y_read9 l D cI cB cZ h0 a27 tz f a0 a1 a2 a3 a4 a5 a6 a7 a8 a9 a40 a10 a19 (.ref a12) (.ref a13) (.ref a14) (.ref a15) (.ref a16) (.ref a17) (.ref a18) (.ref a20) (.ref a21) (.ref a22) (.ref a23) (.ref a24) (.int rR) (.int rW) (.int rX) (.ref a45) (.int (nI rs)) (.ref a48) (.ref a49) (.int (nI sno)) (.ref a51) so bg ten wd tk fk fp sd nb np pli kd cl rg uv1 ui1 uv2 ui2 sk sp C Mn ci ld mo dn rc cm df Kq sq nq Ezq Qq Tq htp hB hTS _) (cwV 0 hts gP_law__y_read9 rfl rfl rfl (by decide +kernel) ⟨Nat.le_of_ble_eq_true rfl, Nat.le_of_ble_eq_true rfl⟩) (gx_preV (ci := 9) (q0 := 0) hK gN.nil (gq_Pl hP) (gq_Dl hD) [0, 25, 3, 4, 5, 6, 7, 8, 9, 10, 26, 1, 2, 11, 19] rfl rfl rfl rfl) rfl rfl hl.1 rfl (lv_room (Nat.le_of_ble_eq_true rfl)) dL_law_224 ⟨(Nat.le_trans (Nat.add_le_add_right hkb.1 _) (Nat.le_of_ble_eq_true rfl)), (Nat.le_trans (Nat.add_le_add_right hkb.2 _) (Nat.le_of_ble_eq_true rfl))⟩) hP hD hS hA [0, 25, 3, 4, 5, 6, 7, 8, 9, 10, 26, 1, 2, 11, 19] [12, 13, 14, 15, 16, 17, 18, 20, 21, 22, 23, 24, 27, 28, 29, 30] rfl rfl rfl (by decide) (fun r1 w1 H locs hp hP hD hS => ?_)
  obtain ⟨zm, hp⟩ := hp
  obtain ⟨e_1, hp⟩ := hp
  obtain ⟨e_2, hp⟩ := hp
  obtain ⟨e_3, hp⟩ := hp
  obtain ⟨e_4, hp⟩ := hp
  obtain ⟨e_5, hp⟩ := hp
  obtain ⟨e_6, hp⟩ := hp
  obtain ⟨fpm, hp⟩ := hp
  obtain ⟨e_7, hp⟩ := hp
  obtain ⟨e_8, hp⟩ := hp
  obtain ⟨e_9, hp⟩ := hp
  obtain ⟨e_10, hp⟩ := hp
  obtain ⟨e_11, hp⟩ := hp
  obtain ⟨e_12, hp⟩ := hp
  obtain ⟨e_13, hp⟩ := hp
  obtain ⟨e_14, hp⟩ := hp
  obtain ⟨e_15, hp⟩ := hp
  obtain ⟨e_16, hp⟩ := hp
  obtain ⟨e_17, hp⟩ := hp
  obtain ⟨e_18, hp⟩ := hp
  obtain ⟨e_19, hp⟩ := hp
  obtain ⟨e_20, hp⟩ := hp
  obtain ⟨e_21, hp⟩ := hp
  obtain ⟨e_22, hp⟩ := hp
  obtain ⟨ipm, hp⟩ := hp
  obtain ⟨e_23, hp⟩ := hp
  obtain ⟨e_24, hp⟩ := hp
  obtain ⟨e_25, hp⟩ := hp
  obtain ⟨e_26, hp⟩ := hp
  obtain ⟨e_27, hp⟩ := hp
  obtain ⟨hq_28, hp⟩ := hp
  obtain ⟨hq_29, hp⟩ := hp
  obtain ⟨hx224_0, hp⟩ := hp
  obtain ⟨hx224_1, hp⟩ := hp
  obtain ⟨hx224_2, hp⟩ := hp
  obtain ⟨h9, hp⟩ := hp
  subst hp
  have h9 := h9.symm
  subst h9
  have hq_28 : gB9 e_20 e_21 e_11 e_12 e_13 e_14 e_16 e_18 := hq_28
  have hq_29 : (e_23 = mo ∧ e_24 = dn ∧ e_25 = rc ∧ e_26 = cm ∧ ipm = ld ∧ e_27 = df ∧ gSm kd e_11 C e_20 Mn e_21) ∨ (e_23 = (-1) ∧ e_24 = 0 ∧ e_25 = (-1) ∧ e_26 = (-1) ∧ ∀ t, t < 3 → e_27 t = 0) := hq_29
  have hx224_0 : rRes (rTx Kq sq nq Qq Tq) sq zm fpm := hx224_0
  have hx224_1 : (zm = 0 ∧ ipm = 1 ∧ rPM e_20 e_21 e_11 e_12 e_13 e_14 e_15 e_16 e_17 e_18 e_22 (rTx Kq sq nq Qq Tq)) ∨ (¬ zm = 0 ∧ ipm = ld ∧ e_20 0 = C 0 ∧ (∀ j, j < 3 → e_21 j = Mn j) ∧ (∀ j, j < 36 → e_11 j = kd j) ∧ (∀ j, j < 36 → e_12 j = cl j) ∧ (∀ j, j < 36 → e_13 j = rg j) ∧ (∀ j, j < 36 → e_14 j = uv1 j) ∧ (∀ j, j < 36 → e_15 j = ui1 j) ∧ (∀ j, j < 36 → e_16 j = uv2 j) ∧ (∀ j, j < 36 → e_17 j = ui2 j) ∧ (∀ j, j < 36 → e_18 j = sk j) ∧ ∀ c, c < 4 → e_22 c = ci c) := hx224_1
  have hx224_2 : (zm = 0 ∧ e_23 = (-1) ∧ e_25 = (-1) ∧ e_26 = (-1) ∧ ∀ t, t < 3 → e_27 t = 0) ∨ (¬ zm = 0 ∧ e_23 = mo ∧ e_24 = dn ∧ e_25 = rc ∧ e_26 = cm ∧ e_27 = df) := hx224_2
  have hP : va_P D vwCl ([(a12, .inl (cI, 522000, .inl sf)), (a13, .inl (cI, 9000, .inl fr)), (a14, .inl (cI, 9000, .inl bf)), (a15, .inl (cI, 9000, .inl nf)), (a16, .inl (cI, 12288, .inl hf)), (a17, .inl (cI, 3, .inl (fun j => nI (S j)))), (a18, .inl (cZ, 3, .inl ff)), (a20, .inl (cI, 9000, .inl en)), (a21, .inl (cI, 3, .inl (fun j => nI (E j)))), (a22, .inl (cI, 58, .inl nw)), (a23, .inl (cI, 58, .inl mf)), (a24, .inl (cI, 2900, .inl hh)), (a45, .inl (cI, 64, .inl rt)), (a48, .inl (cI, 2, .inl cu)), (a49, .inl (cI, 16, .inl spt)), (a51, .inl (cI, 13, .inl (fun j => nI (mv j)))), (h0, .inr (9, [.ref a0, .ref a1, .ref a2, .ref a3, .ref a4, .ref a5, .ref a6, .ref a7, .ref a8, .ref a9, .ref a10, .int ipm, .ref a12, .ref a13, .ref a14, .ref a15, .ref a16, .ref a17, .ref a18, .ref a19, .ref a20, .ref a21, .ref a22, .ref a23, .ref a24, .int (nI e_24), .int e_23, .ref a27, .int 0, .int e_6, .int fpm, .int e_1, .int (nI e_2), .int (nI e_3), .long e_4, .int (nI e_5), .int e_7, .int e_8, .int e_9, .int e_10, .ref a40, .int e_25, .int rR, .int rW, .int rX, .ref a45, .int (nI rs), .int e_26, .ref a48, .ref a49, .int (nI sno), .ref a51])), (a27, .inl (cB, 4000, .inl f)), (a2, .inl (cI, 108, .inl e_11)), (a3, .inl (cI, 108, .inl e_12)), (a4, .inl (cI, 108, .inl e_13)), (a5, .inl (cI, 108, .inl e_14)), (a6, .inl (cI, 108, .inl e_15)), (a7, .inl (cI, 108, .inl e_16)), (a8, .inl (cI, 108, .inl e_17)), (a9, .inl (cI, 108, .inl e_18)), (a40, .inl (cI, 12, .inl e_19)), (a0, .inl (cI, 3, .inl (fun j => nI (e_20 j)))), (a1, .inl (cI, 9, .inl (fun j => nI (e_21 j)))), (a10, .inl (cI, 12, .inl e_22)), (a19, .inl (cZ, 3, .inl e_27))] ++ w9) H := hP
  have hD : va_D A ([(a12, .inl (cI, 522000, .inl sf)), (a13, .inl (cI, 9000, .inl fr)), (a14, .inl (cI, 9000, .inl bf)), (a15, .inl (cI, 9000, .inl nf)), (a16, .inl (cI, 12288, .inl hf)), (a17, .inl (cI, 3, .inl (fun j => nI (S j)))), (a18, .inl (cZ, 3, .inl ff)), (a20, .inl (cI, 9000, .inl en)), (a21, .inl (cI, 3, .inl (fun j => nI (E j)))), (a22, .inl (cI, 58, .inl nw)), (a23, .inl (cI, 58, .inl mf)), (a24, .inl (cI, 2900, .inl hh)), (a45, .inl (cI, 64, .inl rt)), (a48, .inl (cI, 2, .inl cu)), (a49, .inl (cI, 16, .inl spt)), (a51, .inl (cI, 13, .inl (fun j => nI (mv j)))), (h0, .inr (9, [.ref a0, .ref a1, .ref a2, .ref a3, .ref a4, .ref a5, .ref a6, .ref a7, .ref a8, .ref a9, .ref a10, .int ipm, .ref a12, .ref a13, .ref a14, .ref a15, .ref a16, .ref a17, .ref a18, .ref a19, .ref a20, .ref a21, .ref a22, .ref a23, .ref a24, .int (nI e_24), .int e_23, .ref a27, .int 0, .int e_6, .int fpm, .int e_1, .int (nI e_2), .int (nI e_3), .long e_4, .int (nI e_5), .int e_7, .int e_8, .int e_9, .int e_10, .ref a40, .int e_25, .int rR, .int rW, .int rX, .ref a45, .int (nI rs), .int e_26, .ref a48, .ref a49, .int (nI sno), .ref a51])), (a27, .inl (cB, 4000, .inl f)), (a2, .inl (cI, 108, .inl e_11)), (a3, .inl (cI, 108, .inl e_12)), (a4, .inl (cI, 108, .inl e_13)), (a5, .inl (cI, 108, .inl e_14)), (a6, .inl (cI, 108, .inl e_15)), (a7, .inl (cI, 108, .inl e_16)), (a8, .inl (cI, 108, .inl e_17)), (a9, .inl (cI, 108, .inl e_18)), (a40, .inl (cI, 12, .inl e_19)), (a0, .inl (cI, 3, .inl (fun j => nI (e_20 j)))), (a1, .inl (cI, 9, .inl (fun j => nI (e_21 j)))), (a10, .inl (cI, 12, .inl e_22)), (a19, .inl (cZ, 3, .inl e_27))] ++ w9) := hD
  refine W.widen (k := kc) (n := ns) (Nat.le_refl _) (Nat.le_refl _) ?_
  obtain ⟨hra, hrb⟩ := rRes_u hRs hx224_0
  have hMP9 := rd_MP (hB.1 0 (by decide)) hMP (hLd.imp (fun h => ⟨h.1, h.2.1, h.2.2.1⟩) (fun h => ⟨h.1, h.2.1, h.2.2.1, h.2.2.2.1, h.2.2.2.2.1, h.2.2.2.2.2.1⟩)) hra hx224_1
  have hMH9 := rd_MH hMH hLd hra hx224_2
  have hrc := rd_ld6 hLd hra hx224_1
  subst hrb; subst hrc
  have hP : va_P D vwCl ([(a12, .inl (cI, 522000, .inl sf)), (a13, .inl (cI, 9000, .inl fr)), (a14, .inl (cI, 9000, .inl bf)), (a15, .inl (cI, 9000, .inl nf)), (a16, .inl (cI, 12288, .inl hf)), (a17, .inl (cI, 3, .inl (fun j => nI (S j)))), (a18, .inl (cZ, 3, .inl ff)), (a20, .inl (cI, 9000, .inl en)), (a21, .inl (cI, 3, .inl (fun j => nI (E j)))), (a22, .inl (cI, 58, .inl nw)), (a23, .inl (cI, 58, .inl mf)), (a24, .inl (cI, 2900, .inl hh)), (a45, .inl (cI, 64, .inl rt)), (a48, .inl (cI, 2, .inl cu)), (a49, .inl (cI, 16, .inl spt)), (a51, .inl (cI, 13, .inl (fun j => nI (mv j)))), (h0, .inr (9, [.ref a0, .ref a1, .ref a2, .ref a3, .ref a4, .ref a5, .ref a6, .ref a7, .ref a8, .ref a9, .ref a10, .int ld9, .ref a12, .ref a13, .ref a14, .ref a15, .ref a16, .ref a17, .ref a18, .ref a19, .ref a20, .ref a21, .ref a22, .ref a23, .ref a24, .int (nI e_24), .int e_23, .ref a27, .int 0, .int e_6, .int fp9, .int e_1, .int (nI e_2), .int (nI e_3), .long e_4, .int (nI e_5), .int e_7, .int e_8, .int e_9, .int e_10, .ref a40, .int e_25, .int rR, .int rW, .int rX, .ref a45, .int (nI rs), .int e_26, .ref a48, .ref a49, .int (nI sno), .ref a51])), (a27, .inl (cB, 4000, .inl f)), (a2, .inl (cI, 108, .inl e_11)), (a3, .inl (cI, 108, .inl e_12)), (a4, .inl (cI, 108, .inl e_13)), (a5, .inl (cI, 108, .inl e_14)), (a6, .inl (cI, 108, .inl e_15)), (a7, .inl (cI, 108, .inl e_16)), (a8, .inl (cI, 108, .inl e_17)), (a9, .inl (cI, 108, .inl e_18)), (a40, .inl (cI, 12, .inl e_19)), (a0, .inl (cI, 3, .inl (fun j => nI (e_20 j)))), (a1, .inl (cI, 9, .inl (fun j => nI (e_21 j)))), (a10, .inl (cI, 12, .inl e_22)), (a19, .inl (cZ, 3, .inl e_27))] ++ w9) H := hP
  have hD : va_D A ([(a12, .inl (cI, 522000, .inl sf)), (a13, .inl (cI, 9000, .inl fr)), (a14, .inl (cI, 9000, .inl bf)), (a15, .inl (cI, 9000, .inl nf)), (a16, .inl (cI, 12288, .inl hf)), (a17, .inl (cI, 3, .inl (fun j => nI (S j)))), (a18, .inl (cZ, 3, .inl ff)), (a20, .inl (cI, 9000, .inl en)), (a21, .inl (cI, 3, .inl (fun j => nI (E j)))), (a22, .inl (cI, 58, .inl nw)), (a23, .inl (cI, 58, .inl mf)), (a24, .inl (cI, 2900, .inl hh)), (a45, .inl (cI, 64, .inl rt)), (a48, .inl (cI, 2, .inl cu)), (a49, .inl (cI, 16, .inl spt)), (a51, .inl (cI, 13, .inl (fun j => nI (mv j)))), (h0, .inr (9, [.ref a0, .ref a1, .ref a2, .ref a3, .ref a4, .ref a5, .ref a6, .ref a7, .ref a8, .ref a9, .ref a10, .int ld9, .ref a12, .ref a13, .ref a14, .ref a15, .ref a16, .ref a17, .ref a18, .ref a19, .ref a20, .ref a21, .ref a22, .ref a23, .ref a24, .int (nI e_24), .int e_23, .ref a27, .int 0, .int e_6, .int fp9, .int e_1, .int (nI e_2), .int (nI e_3), .long e_4, .int (nI e_5), .int e_7, .int e_8, .int e_9, .int e_10, .ref a40, .int e_25, .int rR, .int rW, .int rX, .ref a45, .int (nI rs), .int e_26, .ref a48, .ref a49, .int (nI sno), .ref a51])), (a27, .inl (cB, 4000, .inl f)), (a2, .inl (cI, 108, .inl e_11)), (a3, .inl (cI, 108, .inl e_12)), (a4, .inl (cI, 108, .inl e_13)), (a5, .inl (cI, 108, .inl e_14)), (a6, .inl (cI, 108, .inl e_15)), (a7, .inl (cI, 108, .inl e_16)), (a8, .inl (cI, 108, .inl e_17)), (a9, .inl (cI, 108, .inl e_18)), (a40, .inl (cI, 12, .inl e_19)), (a0, .inl (cI, 3, .inl (fun j => nI (e_20 j)))), (a1, .inl (cI, 9, .inl (fun j => nI (e_21 j)))), (a10, .inl (cI, 12, .inl e_22)), (a19, .inl (cZ, 3, .inl e_27))] ++ w9) := hD
  have hP := gq_subP (X' := [(h0, .inr (9, [.ref a0, .ref a1, .ref a2, .ref a3, .ref a4, .ref a5, .ref a6, .ref a7, .ref a8, .ref a9, .ref a10, .int ld9, .ref a12, .ref a13, .ref a14, .ref a15, .ref a16, .ref a17, .ref a18, .ref a19, .ref a20, .ref a21, .ref a22, .ref a23, .ref a24, .int (nI e_24), .int e_23, .ref a27, .int 0, .int e_6, .int fp9, .int e_1, .int (nI e_2), .int (nI e_3), .long e_4, .int (nI e_5), .int e_7, .int e_8, .int e_9, .int e_10, .ref a40, .int e_25, .int rR, .int rW, .int rX, .ref a45, .int (nI rs), .int e_26, .ref a48, .ref a49, .int (nI sno), .ref a51])), (a0, .inl (cI, 3, .inl (fun j => nI (e_20 j)))), (a1, .inl (cI, 9, .inl (fun j => nI (e_21 j)))), (a2, .inl (cI, 108, .inl e_11)), (a3, .inl (cI, 108, .inl e_12)), (a4, .inl (cI, 108, .inl e_13)), (a5, .inl (cI, 108, .inl e_14)), (a6, .inl (cI, 108, .inl e_15)), (a7, .inl (cI, 108, .inl e_16)), (a8, .inl (cI, 108, .inl e_17)), (a9, .inl (cI, 108, .inl e_18)), (a10, .inl (cI, 12, .inl e_22)), (a12, .inl (cI, 522000, .inl sf)), (a13, .inl (cI, 9000, .inl fr)), (a14, .inl (cI, 9000, .inl bf)), (a15, .inl (cI, 9000, .inl nf)), (a16, .inl (cI, 12288, .inl hf)), (a17, .inl (cI, 3, .inl (fun j => nI (S j)))), (a18, .inl (cZ, 3, .inl ff)), (a19, .inl (cZ, 3, .inl e_27)), (a20, .inl (cI, 9000, .inl en)), (a21, .inl (cI, 3, .inl (fun j => nI (E j)))), (a22, .inl (cI, 58, .inl nw)), (a23, .inl (cI, 58, .inl mf)), (a24, .inl (cI, 2900, .inl hh)), (a27, .inl (cB, 4000, .inl f)), (a40, .inl (cI, 12, .inl e_19)), (a45, .inl (cI, 64, .inl rt)), (a48, .inl (cI, 2, .inl cu)), (a49, .inl (cI, 16, .inl spt)), (a51, .inl (cI, 13, .inl (fun j => nI (mv j))))]) hP [16, 27, 28, 18, 19, 20, 21, 22, 23, 24, 25, 29, 0, 1, 2, 3, 4, 5, 6, 30, 7, 8, 9, 10, 11, 17, 26, 12, 13, 14, 15] rfl
  have hD := gq_subD (X' := [(h0, .inr (9, [.ref a0, .ref a1, .ref a2, .ref a3, .ref a4, .ref a5, .ref a6, .ref a7, .ref a8, .ref a9, .ref a10, .int ld9, .ref a12, .ref a13, .ref a14, .ref a15, .ref a16, .ref a17, .ref a18, .ref a19, .ref a20, .ref a21, .ref a22, .ref a23, .ref a24, .int (nI e_24), .int e_23, .ref a27, .int 0, .int e_6, .int fp9, .int e_1, .int (nI e_2), .int (nI e_3), .long e_4, .int (nI e_5), .int e_7, .int e_8, .int e_9, .int e_10, .ref a40, .int e_25, .int rR, .int rW, .int rX, .ref a45, .int (nI rs), .int e_26, .ref a48, .ref a49, .int (nI sno), .ref a51])), (a0, .inl (cI, 3, .inl (fun j => nI (e_20 j)))), (a1, .inl (cI, 9, .inl (fun j => nI (e_21 j)))), (a2, .inl (cI, 108, .inl e_11)), (a3, .inl (cI, 108, .inl e_12)), (a4, .inl (cI, 108, .inl e_13)), (a5, .inl (cI, 108, .inl e_14)), (a6, .inl (cI, 108, .inl e_15)), (a7, .inl (cI, 108, .inl e_16)), (a8, .inl (cI, 108, .inl e_17)), (a9, .inl (cI, 108, .inl e_18)), (a10, .inl (cI, 12, .inl e_22)), (a12, .inl (cI, 522000, .inl sf)), (a13, .inl (cI, 9000, .inl fr)), (a14, .inl (cI, 9000, .inl bf)), (a15, .inl (cI, 9000, .inl nf)), (a16, .inl (cI, 12288, .inl hf)), (a17, .inl (cI, 3, .inl (fun j => nI (S j)))), (a18, .inl (cZ, 3, .inl ff)), (a19, .inl (cZ, 3, .inl e_27)), (a20, .inl (cI, 9000, .inl en)), (a21, .inl (cI, 3, .inl (fun j => nI (E j)))), (a22, .inl (cI, 58, .inl nw)), (a23, .inl (cI, 58, .inl mf)), (a24, .inl (cI, 2900, .inl hh)), (a27, .inl (cB, 4000, .inl f)), (a40, .inl (cI, 12, .inl e_19)), (a45, .inl (cI, 64, .inl rt)), (a48, .inl (cI, 2, .inl cu)), (a49, .inl (cI, 16, .inl spt)), (a51, .inl (cI, 13, .inl (fun j => nI (mv j))))]) hD [16, 27, 28, 18, 19, 20, 21, 22, 23, 24, 25, 29, 0, 1, 2, 3, 4, 5, 6, 30, 7, 8, 9, 10, 11, 17, 26, 12, 13, 14, 15] (by decide) rfl
  exact kk zm _ H locs (ModelI_mk cI cB cZ h0 0 f fp9 ld9 nc9 L9 cf9 pf9 vst9 vk vm vd a0 a1 a2 a3 a4 a5 a6 a7 a8 a9 a10 a12 a13 a14 a15 a16 a17 a18 a19 a20 a21 a22 a23 a24 a27 a40 a45 a48 a49 a51 e_20 e_21 e_11 e_12 e_13 e_14 e_15 e_16 e_17 e_18 e_22 sf fr bf nf hf S ff e_27 en E nw mf hh e_19 rt cu spt mv e_24 e_23 e_6 e_1 e_2 e_3 e_4 e_5 e_7 e_8 e_9 e_10 e_25 rR rW rX rs e_26 sno (Nat.zero_le _) hq_28 (gRd_mo hMo hB.2.2.1 hq_29) (gRd_a hAn hq_29) hrs (gRd_c hcm hq_29) hMP9 hMH9) trivial hP hD hS
set_option maxHeartbeats 4000000 in
set_option maxRecDepth 100000 in
theorem md_place {p : Program} {l : Launch} {e : Env} {s : State} {m : MethodId} {below : List Frame} {meth : Method} {c : Code} {b : Nat} {A : Nat → Prop} {Q : State → Prop} {D : va_G} {cI cB cZ : ClassId} {K : gKS} (G : gL p s m c b A D cI cB cZ K) {H : Heap} {locs : List Loc} {ls : Array Slot} {w8 w9 : va_W} {h0 tz kc ns tz9 : Nat} {f f9 : Nat → Int32} {fp ld fp9 ld9 : Int32} {nc nc9 : Nat} {L L9 : Nat → Nat} {cf cf9 : Nat → Int32} {pf pf9 : Nat → Int32} {vst vst9 : Int32} {vk vk9 : Nat} {vm vm9 : Int32} {vd vd9 : Nat → Int32} (hkb : kc ≤ 20000 ∧ ns ≤ 2000000) (hH : ModelI cI cB cZ h0 w8 tz f fp ld nc L cf pf vst vk vm vd) (hP : va_P D vwCl (w8 ++ w9) H) (hD : va_D A (w8 ++ w9)) (hS : va_S A s.heap H locs) (hl : ls.size = 4 ∧ True) (r8 : Int32) (hR : r8 = fp ∧ tz = tz9 ∧ f = f9 ∧ fp = fp9 ∧ ld = ld9 ∧ nc = nc9 ∧ L = L9 ∧ cf = cf9 ∧ pf = pf9 ∧ vst = vst9 ∧ vk = vk9 ∧ vm = vm9 ∧ vd = vd9) (kk : ∀ (r : Int32) (w8' : va_W) (H1 : Heap) (locs1 : List Loc), ModelI cI cB cZ h0 w8' tz9 f9 fp9 ld9 nc9 L9 cf9 pf9 vst9 vk9 vm9 vd9 → (True) → va_P D vwCl (w8' ++ w9) H1 → va_D A (w8' ++ w9) → va_S A s.heap H1 locs1 → W p l e room_1 s m #[Value.ref b] below meth c H1 locs1 kc ns Q (F0 m 240 ls [.int r])) : W p l e room_1 s m #[Value.ref b] below meth c H locs kc ns Q (F0 m 237 ls [.ref h0]) := by
  obtain ⟨hx, hb, hml, hown, hts, hA, hK, hN, hE⟩ := G
  unfold ModelI at hH
  obtain ⟨a0, hH⟩ := hH
  obtain ⟨a1, hH⟩ := hH
  obtain ⟨a2, hH⟩ := hH
  obtain ⟨a3, hH⟩ := hH
  obtain ⟨a4, hH⟩ := hH
  obtain ⟨a5, hH⟩ := hH
  obtain ⟨a6, hH⟩ := hH
  obtain ⟨a7, hH⟩ := hH
  obtain ⟨a8, hH⟩ := hH
  obtain ⟨a9, hH⟩ := hH
  obtain ⟨a10, hH⟩ := hH
  obtain ⟨a12, hH⟩ := hH
  obtain ⟨a13, hH⟩ := hH
  obtain ⟨a14, hH⟩ := hH
  obtain ⟨a15, hH⟩ := hH
  obtain ⟨a16, hH⟩ := hH
  obtain ⟨a17, hH⟩ := hH
  obtain ⟨a18, hH⟩ := hH
  obtain ⟨a19, hH⟩ := hH
  obtain ⟨a20, hH⟩ := hH
  obtain ⟨a21, hH⟩ := hH
  obtain ⟨a22, hH⟩ := hH
  obtain ⟨a23, hH⟩ := hH
  obtain ⟨a24, hH⟩ := hH
  obtain ⟨a27, hH⟩ := hH
  obtain ⟨a40, hH⟩ := hH
  obtain ⟨a45, hH⟩ := hH
  obtain ⟨a48, hH⟩ := hH
  obtain ⟨a49, hH⟩ := hH
  obtain ⟨a51, hH⟩ := hH
  obtain ⟨C, hH⟩ := hH
  obtain ⟨Mn, hH⟩ := hH
  obtain ⟨kd, hH⟩ := hH
  obtain ⟨cl, hH⟩ := hH
  obtain ⟨rg, hH⟩ := hH
  obtain ⟨uv1, hH⟩ := hH
  obtain ⟨ui1, hH⟩ := hH
  obtain ⟨uv2, hH⟩ := hH
  obtain ⟨ui2, hH⟩ := hH
  obtain ⟨sk, hH⟩ := hH
  obtain ⟨ci, hH⟩ := hH
  obtain ⟨sf, hH⟩ := hH
  obtain ⟨fr, hH⟩ := hH
  obtain ⟨bf, hH⟩ := hH
  obtain ⟨nf, hH⟩ := hH
  obtain ⟨hf, hH⟩ := hH
  obtain ⟨S, hH⟩ := hH
  obtain ⟨ff, hH⟩ := hH
  obtain ⟨df, hH⟩ := hH
  obtain ⟨en, hH⟩ := hH
  obtain ⟨E, hH⟩ := hH
  obtain ⟨nw, hH⟩ := hH
  obtain ⟨mf, hH⟩ := hH
  obtain ⟨hh, hH⟩ := hH
  obtain ⟨sp, hH⟩ := hH
  obtain ⟨rt, hH⟩ := hH
  obtain ⟨cu, hH⟩ := hH
  obtain ⟨spt, hH⟩ := hH
  obtain ⟨mv, hH⟩ := hH
  obtain ⟨dn, hH⟩ := hH
  obtain ⟨mo, hH⟩ := hH
  obtain ⟨fk, hH⟩ := hH
  obtain ⟨so, hH⟩ := hH
  obtain ⟨bg, hH⟩ := hH
  obtain ⟨ten, hH⟩ := hH
  obtain ⟨wd, hH⟩ := hH
  obtain ⟨tk, hH⟩ := hH
  obtain ⟨sd, hH⟩ := hH
  obtain ⟨nb, hH⟩ := hH
  obtain ⟨np, hH⟩ := hH
  obtain ⟨pli, hH⟩ := hH
  obtain ⟨rc, hH⟩ := hH
  obtain ⟨rR, hH⟩ := hH
  obtain ⟨rW, hH⟩ := hH
  obtain ⟨rX, hH⟩ := hH
  obtain ⟨rs, hH⟩ := hH
  obtain ⟨cm, hH⟩ := hH
  obtain ⟨sno, hH⟩ := hH
  obtain ⟨htp, hH⟩ := hH
  obtain ⟨hB, hH⟩ := hH
  obtain ⟨hMo, hH⟩ := hH
  obtain ⟨hAn, hH⟩ := hH
  obtain ⟨hrs, hH⟩ := hH
  obtain ⟨hcm, hH⟩ := hH
  obtain ⟨hMP, hH⟩ := hH
  obtain ⟨hMH, hH⟩ := hH
  subst hH
  obtain ⟨-, e1, e2, e3, e4, e5, e6, e7, e8, e9, e10, e11, e12⟩ := id hR
  subst e1; subst e2; subst e3; subst e4; subst e5; subst e6; subst e7; subst e8; subst e9; subst e10; subst e11; subst e12
  refine gq_goi (wc := [(h0, .inr (9, [.ref a0, .ref a1, .ref a2, .ref a3, .ref a4, .ref a5, .ref a6, .ref a7, .ref a8, .ref a9, .ref a10, .int ld, .ref a12, .ref a13, .ref a14, .ref a15, .ref a16, .ref a17, .ref a18, .ref a19, .ref a20, .ref a21, .ref a22, .ref a23, .ref a24, .int (nI dn), .int mo, .ref a27, .int (nI tz), .int fk, .int fp, .int so, .int (nI bg), .int (nI ten), .long wd, .int (nI tk), .int sd, .int nb, .int np, .int pli, .ref a40, .int rc, .int rR, .int rW, .int rX, .ref a45, .int (nI rs), .int cm, .ref a48, .ref a49, .int (nI sno), .ref a51]))]) (wr := [(a0, .inl (cI, 3, .inl (fun j => nI (C j)))), (a1, .inl (cI, 9, .inl (fun j => nI (Mn j)))), (a2, .inl (cI, 108, .inl kd)), (a3, .inl (cI, 108, .inl cl)), (a4, .inl (cI, 108, .inl rg)), (a5, .inl (cI, 108, .inl uv1)), (a6, .inl (cI, 108, .inl ui1)), (a7, .inl (cI, 108, .inl uv2)), (a8, .inl (cI, 108, .inl ui2)), (a9, .inl (cI, 108, .inl sk)), (a10, .inl (cI, 12, .inl ci)), (a12, .inl (cI, 522000, .inl sf)), (a13, .inl (cI, 9000, .inl fr)), (a14, .inl (cI, 9000, .inl bf)), (a15, .inl (cI, 9000, .inl nf)), (a16, .inl (cI, 12288, .inl hf)), (a17, .inl (cI, 3, .inl (fun j => nI (S j)))), (a18, .inl (cZ, 3, .inl ff)), (a19, .inl (cZ, 3, .inl df)), (a20, .inl (cI, 9000, .inl en)), (a21, .inl (cI, 3, .inl (fun j => nI (E j)))), (a22, .inl (cI, 58, .inl nw)), (a23, .inl (cI, 58, .inl mf)), (a24, .inl (cI, 2900, .inl hh)), (a27, .inl (cB, 4000, .inl f)), (a40, .inl (cI, 12, .inl sp)), (a45, .inl (cI, 64, .inl rt)), (a48, .inl (cI, 2, .inl cu)), (a49, .inl (cI, 16, .inl spt)), (a51, .inl (cI, 13, .inl (fun j => nI (mv j))))]) (va_runV (As := []) (rest := []) ⟨hx, hb, hml, hown, hts⟩ (x_place9 l D cI cB cZ h0 (.ref a0) (.ref a1) (.ref a2) (.ref a3) (.ref a4) (.ref a5) (.ref a6) (.ref a7) (.ref a8) (.ref a9) (.ref a10) (.int ld) (.ref a12) (.ref a13) (.ref a14) (.ref a15) (.ref a16) (.ref a17) (.ref a18) (.ref a19) (.ref a20) (.ref a21) (.ref a22) (.ref a23) (.ref a24) (.int (nI dn)) (.int mo) (.ref a27) (.int (nI tz)) (.int fk) (.int so) (.int (nI bg)) (.int (nI ten)) (.long wd) (.int (nI tk)) (.int sd) (.int nb) (.int np) (.int pli) (.ref a40) (.int rc) (.int rR) (.int rW) (.int rX) (.ref a45) (.int (nI rs)) (.int cm) (.ref a48) (.ref a49) (.int (nI sno)) (.ref a51) fp _) (cwV 0 hts gP_law__x_place9 rfl rfl rfl (by decide +kernel) ⟨Nat.le_of_ble_eq_true rfl, Nat.le_of_ble_eq_true rfl⟩) (gx_preV (ci := 9) (q0 := 0) hK gN.nil (gq_Pl hP) (gq_Dl hD) [0] rfl rfl rfl rfl) rfl rfl hl.1 rfl (lv_room (Nat.le_of_ble_eq_true rfl)) dL_law_237 ⟨(Nat.le_trans (Nat.add_le_add_right hkb.1 _) (Nat.le_of_ble_eq_true rfl)), (Nat.le_trans (Nat.add_le_add_right hkb.2 _) (Nat.le_of_ble_eq_true rfl))⟩) hP hD hS hA [0] [1, 2, 3, 4, 5, 6, 7, 8, 9, 10, 11, 12, 13, 14, 15, 16, 17, 18, 19, 20, 21, 22, 23, 24, 25, 26, 27, 28, 29, 30] rfl rfl rfl (by decide) (fun r1 w1 H locs hp hP hD hS => ?_)
  obtain ⟨h9, hp⟩ := hp
  subst hp
  have h9 := h9.symm
  subst h9
  have hP : va_P D vwCl ([(a0, .inl (cI, 3, .inl (fun j => nI (C j)))), (a1, .inl (cI, 9, .inl (fun j => nI (Mn j)))), (a2, .inl (cI, 108, .inl kd)), (a3, .inl (cI, 108, .inl cl)), (a4, .inl (cI, 108, .inl rg)), (a5, .inl (cI, 108, .inl uv1)), (a6, .inl (cI, 108, .inl ui1)), (a7, .inl (cI, 108, .inl uv2)), (a8, .inl (cI, 108, .inl ui2)), (a9, .inl (cI, 108, .inl sk)), (a10, .inl (cI, 12, .inl ci)), (a12, .inl (cI, 522000, .inl sf)), (a13, .inl (cI, 9000, .inl fr)), (a14, .inl (cI, 9000, .inl bf)), (a15, .inl (cI, 9000, .inl nf)), (a16, .inl (cI, 12288, .inl hf)), (a17, .inl (cI, 3, .inl (fun j => nI (S j)))), (a18, .inl (cZ, 3, .inl ff)), (a19, .inl (cZ, 3, .inl df)), (a20, .inl (cI, 9000, .inl en)), (a21, .inl (cI, 3, .inl (fun j => nI (E j)))), (a22, .inl (cI, 58, .inl nw)), (a23, .inl (cI, 58, .inl mf)), (a24, .inl (cI, 2900, .inl hh)), (a27, .inl (cB, 4000, .inl f)), (a40, .inl (cI, 12, .inl sp)), (a45, .inl (cI, 64, .inl rt)), (a48, .inl (cI, 2, .inl cu)), (a49, .inl (cI, 16, .inl spt)), (a51, .inl (cI, 13, .inl (fun j => nI (mv j)))), (h0, .inr (9, [.ref a0, .ref a1, .ref a2, .ref a3, .ref a4, .ref a5, .ref a6, .ref a7, .ref a8, .ref a9, .ref a10, .int ld, .ref a12, .ref a13, .ref a14, .ref a15, .ref a16, .ref a17, .ref a18, .ref a19, .ref a20, .ref a21, .ref a22, .ref a23, .ref a24, .int (nI dn), .int mo, .ref a27, .int (nI tz), .int fk, .int fp, .int so, .int (nI bg), .int (nI ten), .long wd, .int (nI tk), .int sd, .int nb, .int np, .int pli, .ref a40, .int rc, .int rR, .int rW, .int rX, .ref a45, .int (nI rs), .int cm, .ref a48, .ref a49, .int (nI sno), .ref a51]))] ++ w9) H := hP
  have hD : va_D A ([(a0, .inl (cI, 3, .inl (fun j => nI (C j)))), (a1, .inl (cI, 9, .inl (fun j => nI (Mn j)))), (a2, .inl (cI, 108, .inl kd)), (a3, .inl (cI, 108, .inl cl)), (a4, .inl (cI, 108, .inl rg)), (a5, .inl (cI, 108, .inl uv1)), (a6, .inl (cI, 108, .inl ui1)), (a7, .inl (cI, 108, .inl uv2)), (a8, .inl (cI, 108, .inl ui2)), (a9, .inl (cI, 108, .inl sk)), (a10, .inl (cI, 12, .inl ci)), (a12, .inl (cI, 522000, .inl sf)), (a13, .inl (cI, 9000, .inl fr)), (a14, .inl (cI, 9000, .inl bf)), (a15, .inl (cI, 9000, .inl nf)), (a16, .inl (cI, 12288, .inl hf)), (a17, .inl (cI, 3, .inl (fun j => nI (S j)))), (a18, .inl (cZ, 3, .inl ff)), (a19, .inl (cZ, 3, .inl df)), (a20, .inl (cI, 9000, .inl en)), (a21, .inl (cI, 3, .inl (fun j => nI (E j)))), (a22, .inl (cI, 58, .inl nw)), (a23, .inl (cI, 58, .inl mf)), (a24, .inl (cI, 2900, .inl hh)), (a27, .inl (cB, 4000, .inl f)), (a40, .inl (cI, 12, .inl sp)), (a45, .inl (cI, 64, .inl rt)), (a48, .inl (cI, 2, .inl cu)), (a49, .inl (cI, 16, .inl spt)), (a51, .inl (cI, 13, .inl (fun j => nI (mv j)))), (h0, .inr (9, [.ref a0, .ref a1, .ref a2, .ref a3, .ref a4, .ref a5, .ref a6, .ref a7, .ref a8, .ref a9, .ref a10, .int ld, .ref a12, .ref a13, .ref a14, .ref a15, .ref a16, .ref a17, .ref a18, .ref a19, .ref a20, .ref a21, .ref a22, .ref a23, .ref a24, .int (nI dn), .int mo, .ref a27, .int (nI tz), .int fk, .int fp, .int so, .int (nI bg), .int (nI ten), .long wd, .int (nI tk), .int sd, .int nb, .int np, .int pli, .ref a40, .int rc, .int rR, .int rW, .int rX, .ref a45, .int (nI rs), .int cm, .ref a48, .ref a49, .int (nI sno), .ref a51]))] ++ w9) := hD
  refine W.widen (k := kc) (n := ns) (Nat.le_refl _) (Nat.le_refl _) ?_
  have hP := gq_subP (X' := [(h0, .inr (9, [.ref a0, .ref a1, .ref a2, .ref a3, .ref a4, .ref a5, .ref a6, .ref a7, .ref a8, .ref a9, .ref a10, .int ld, .ref a12, .ref a13, .ref a14, .ref a15, .ref a16, .ref a17, .ref a18, .ref a19, .ref a20, .ref a21, .ref a22, .ref a23, .ref a24, .int (nI dn), .int mo, .ref a27, .int (nI tz), .int fk, .int fp, .int so, .int (nI bg), .int (nI ten), .long wd, .int (nI tk), .int sd, .int nb, .int np, .int pli, .ref a40, .int rc, .int rR, .int rW, .int rX, .ref a45, .int (nI rs), .int cm, .ref a48, .ref a49, .int (nI sno), .ref a51])), (a0, .inl (cI, 3, .inl (fun j => nI (C j)))), (a1, .inl (cI, 9, .inl (fun j => nI (Mn j)))), (a2, .inl (cI, 108, .inl kd)), (a3, .inl (cI, 108, .inl cl)), (a4, .inl (cI, 108, .inl rg)), (a5, .inl (cI, 108, .inl uv1)), (a6, .inl (cI, 108, .inl ui1)), (a7, .inl (cI, 108, .inl uv2)), (a8, .inl (cI, 108, .inl ui2)), (a9, .inl (cI, 108, .inl sk)), (a10, .inl (cI, 12, .inl ci)), (a12, .inl (cI, 522000, .inl sf)), (a13, .inl (cI, 9000, .inl fr)), (a14, .inl (cI, 9000, .inl bf)), (a15, .inl (cI, 9000, .inl nf)), (a16, .inl (cI, 12288, .inl hf)), (a17, .inl (cI, 3, .inl (fun j => nI (S j)))), (a18, .inl (cZ, 3, .inl ff)), (a19, .inl (cZ, 3, .inl df)), (a20, .inl (cI, 9000, .inl en)), (a21, .inl (cI, 3, .inl (fun j => nI (E j)))), (a22, .inl (cI, 58, .inl nw)), (a23, .inl (cI, 58, .inl mf)), (a24, .inl (cI, 2900, .inl hh)), (a27, .inl (cB, 4000, .inl f)), (a40, .inl (cI, 12, .inl sp)), (a45, .inl (cI, 64, .inl rt)), (a48, .inl (cI, 2, .inl cu)), (a49, .inl (cI, 16, .inl spt)), (a51, .inl (cI, 13, .inl (fun j => nI (mv j))))]) hP [30, 0, 1, 2, 3, 4, 5, 6, 7, 8, 9, 10, 11, 12, 13, 14, 15, 16, 17, 18, 19, 20, 21, 22, 23, 24, 25, 26, 27, 28, 29] rfl
  have hD := gq_subD (X' := [(h0, .inr (9, [.ref a0, .ref a1, .ref a2, .ref a3, .ref a4, .ref a5, .ref a6, .ref a7, .ref a8, .ref a9, .ref a10, .int ld, .ref a12, .ref a13, .ref a14, .ref a15, .ref a16, .ref a17, .ref a18, .ref a19, .ref a20, .ref a21, .ref a22, .ref a23, .ref a24, .int (nI dn), .int mo, .ref a27, .int (nI tz), .int fk, .int fp, .int so, .int (nI bg), .int (nI ten), .long wd, .int (nI tk), .int sd, .int nb, .int np, .int pli, .ref a40, .int rc, .int rR, .int rW, .int rX, .ref a45, .int (nI rs), .int cm, .ref a48, .ref a49, .int (nI sno), .ref a51])), (a0, .inl (cI, 3, .inl (fun j => nI (C j)))), (a1, .inl (cI, 9, .inl (fun j => nI (Mn j)))), (a2, .inl (cI, 108, .inl kd)), (a3, .inl (cI, 108, .inl cl)), (a4, .inl (cI, 108, .inl rg)), (a5, .inl (cI, 108, .inl uv1)), (a6, .inl (cI, 108, .inl ui1)), (a7, .inl (cI, 108, .inl uv2)), (a8, .inl (cI, 108, .inl ui2)), (a9, .inl (cI, 108, .inl sk)), (a10, .inl (cI, 12, .inl ci)), (a12, .inl (cI, 522000, .inl sf)), (a13, .inl (cI, 9000, .inl fr)), (a14, .inl (cI, 9000, .inl bf)), (a15, .inl (cI, 9000, .inl nf)), (a16, .inl (cI, 12288, .inl hf)), (a17, .inl (cI, 3, .inl (fun j => nI (S j)))), (a18, .inl (cZ, 3, .inl ff)), (a19, .inl (cZ, 3, .inl df)), (a20, .inl (cI, 9000, .inl en)), (a21, .inl (cI, 3, .inl (fun j => nI (E j)))), (a22, .inl (cI, 58, .inl nw)), (a23, .inl (cI, 58, .inl mf)), (a24, .inl (cI, 2900, .inl hh)), (a27, .inl (cB, 4000, .inl f)), (a40, .inl (cI, 12, .inl sp)), (a45, .inl (cI, 64, .inl rt)), (a48, .inl (cI, 2, .inl cu)), (a49, .inl (cI, 16, .inl spt)), (a51, .inl (cI, 13, .inl (fun j => nI (mv j))))]) hD [30, 0, 1, 2, 3, 4, 5, 6, 7, 8, 9, 10, 11, 12, 13, 14, 15, 16, 17, 18, 19, 20, 21, 22, 23, 24, 25, 26, 27, 28, 29] (by decide) rfl
  exact kk fp _ H locs (ModelI_mk cI cB cZ h0 tz f fp ld nc L cf pf vst vk vm vd a0 a1 a2 a3 a4 a5 a6 a7 a8 a9 a10 a12 a13 a14 a15 a16 a17 a18 a19 a20 a21 a22 a23 a24 a27 a40 a45 a48 a49 a51 C Mn kd cl rg uv1 ui1 uv2 ui2 sk ci sf fr bf nf hf S ff df en E nw mf hh sp rt cu spt mv dn mo fk so bg ten wd tk sd nb np pli rc rR rW rX rs cm sno htp hB hMo hAn hrs hcm hMP hMH) trivial hP hD hS
set_option maxHeartbeats 4000000 in
set_option maxRecDepth 100000 in
theorem md_ins {p : Program} {l : Launch} {e : Env} {s : State} {m : MethodId} {below : List Frame} {meth : Method} {c : Code} {b : Nat} {A : Nat → Prop} {Q : State → Prop} {D : va_G} {cI cB cZ : ClassId} {K : gKS} (G : gL p s m c b A D cI cB cZ K) {H : Heap} {locs : List Loc} {ls : Array Slot} {w8 w9 : va_W} {h0 tz kc ns tz9 : Nat} {f f9 : Nat → Int32} {fp ld fp9 ld9 : Int32} {nc nc9 : Nat} {L L9 : Nat → Nat} {cf cf9 : Nat → Int32} {pf pf9 : Nat → Int32} {vst vst9 : Int32} {vk vk9 : Nat} {vm vm9 : Int32} {vd vd9 : Nat → Int32} (hkb : kc ≤ 20000 ∧ ns ≤ 2000000) (hH : ModelI cI cB cZ h0 w8 tz f fp ld nc L cf pf vst vk vm vd) (hP : va_P D vwCl (w8 ++ w9) H) (hD : va_D A (w8 ++ w9)) (hS : va_S A s.heap H locs) (hl : ls.size = 4 ∧ True) (z1 : Int32) (z2 : Int32) (z3 : Int32) (r8 : Int32) (hR : rIB ld nc L (fun a b c => pf ((((a * 8) + b) * 8) + c)) z1 z2 z3 r8 ∧ tz = tz9 ∧ f = f9 ∧ fp = fp9 ∧ ld = ld9 ∧ nc = nc9 ∧ L = L9 ∧ cf = cf9 ∧ pf = pf9 ∧ vst = vst9 ∧ vk = vk9 ∧ vm = vm9 ∧ vd = vd9) (kk : ∀ (r : Int32) (w8' : va_W) (H1 : Heap) (locs1 : List Loc), ModelI cI cB cZ h0 w8' tz9 f9 fp9 ld9 nc9 L9 cf9 pf9 vst9 vk9 vm9 vd9 → (True) → va_P D vwCl (w8' ++ w9) H1 → va_D A (w8' ++ w9) → va_S A s.heap H1 locs1 → W p l e room_1 s m #[Value.ref b] below meth c H1 locs1 kc ns Q (F0 m 283 ls [.int r])) : W p l e room_1 s m #[Value.ref b] below meth c H locs kc ns Q (F0 m 280 ls [.int z3, .int z2, .int z1, .ref h0]) := by
  obtain ⟨hx, hb, hml, hown, hts, hA, hK, hN, hE⟩ := G
  unfold ModelI at hH
  obtain ⟨a0, hH⟩ := hH
  obtain ⟨a1, hH⟩ := hH
  obtain ⟨a2, hH⟩ := hH
  obtain ⟨a3, hH⟩ := hH
  obtain ⟨a4, hH⟩ := hH
  obtain ⟨a5, hH⟩ := hH
  obtain ⟨a6, hH⟩ := hH
  obtain ⟨a7, hH⟩ := hH
  obtain ⟨a8, hH⟩ := hH
  obtain ⟨a9, hH⟩ := hH
  obtain ⟨a10, hH⟩ := hH
  obtain ⟨a12, hH⟩ := hH
  obtain ⟨a13, hH⟩ := hH
  obtain ⟨a14, hH⟩ := hH
  obtain ⟨a15, hH⟩ := hH
  obtain ⟨a16, hH⟩ := hH
  obtain ⟨a17, hH⟩ := hH
  obtain ⟨a18, hH⟩ := hH
  obtain ⟨a19, hH⟩ := hH
  obtain ⟨a20, hH⟩ := hH
  obtain ⟨a21, hH⟩ := hH
  obtain ⟨a22, hH⟩ := hH
  obtain ⟨a23, hH⟩ := hH
  obtain ⟨a24, hH⟩ := hH
  obtain ⟨a27, hH⟩ := hH
  obtain ⟨a40, hH⟩ := hH
  obtain ⟨a45, hH⟩ := hH
  obtain ⟨a48, hH⟩ := hH
  obtain ⟨a49, hH⟩ := hH
  obtain ⟨a51, hH⟩ := hH
  obtain ⟨C, hH⟩ := hH
  obtain ⟨Mn, hH⟩ := hH
  obtain ⟨kd, hH⟩ := hH
  obtain ⟨cl, hH⟩ := hH
  obtain ⟨rg, hH⟩ := hH
  obtain ⟨uv1, hH⟩ := hH
  obtain ⟨ui1, hH⟩ := hH
  obtain ⟨uv2, hH⟩ := hH
  obtain ⟨ui2, hH⟩ := hH
  obtain ⟨sk, hH⟩ := hH
  obtain ⟨ci, hH⟩ := hH
  obtain ⟨sf, hH⟩ := hH
  obtain ⟨fr, hH⟩ := hH
  obtain ⟨bf, hH⟩ := hH
  obtain ⟨nf, hH⟩ := hH
  obtain ⟨hf, hH⟩ := hH
  obtain ⟨S, hH⟩ := hH
  obtain ⟨ff, hH⟩ := hH
  obtain ⟨df, hH⟩ := hH
  obtain ⟨en, hH⟩ := hH
  obtain ⟨E, hH⟩ := hH
  obtain ⟨nw, hH⟩ := hH
  obtain ⟨mf, hH⟩ := hH
  obtain ⟨hh, hH⟩ := hH
  obtain ⟨sp, hH⟩ := hH
  obtain ⟨rt, hH⟩ := hH
  obtain ⟨cu, hH⟩ := hH
  obtain ⟨spt, hH⟩ := hH
  obtain ⟨mv, hH⟩ := hH
  obtain ⟨dn, hH⟩ := hH
  obtain ⟨mo, hH⟩ := hH
  obtain ⟨fk, hH⟩ := hH
  obtain ⟨so, hH⟩ := hH
  obtain ⟨bg, hH⟩ := hH
  obtain ⟨ten, hH⟩ := hH
  obtain ⟨wd, hH⟩ := hH
  obtain ⟨tk, hH⟩ := hH
  obtain ⟨sd, hH⟩ := hH
  obtain ⟨nb, hH⟩ := hH
  obtain ⟨np, hH⟩ := hH
  obtain ⟨pli, hH⟩ := hH
  obtain ⟨rc, hH⟩ := hH
  obtain ⟨rR, hH⟩ := hH
  obtain ⟨rW, hH⟩ := hH
  obtain ⟨rX, hH⟩ := hH
  obtain ⟨rs, hH⟩ := hH
  obtain ⟨cm, hH⟩ := hH
  obtain ⟨sno, hH⟩ := hH
  obtain ⟨htp, hH⟩ := hH
  obtain ⟨hB, hH⟩ := hH
  obtain ⟨hMo, hH⟩ := hH
  obtain ⟨hAn, hH⟩ := hH
  obtain ⟨hrs, hH⟩ := hH
  obtain ⟨hcm, hH⟩ := hH
  obtain ⟨hMP, hH⟩ := hH
  obtain ⟨hMH, hH⟩ := hH
  subst hH
  obtain ⟨-, e1, e2, e3, e4, e5, e6, e7, e8, e9, e10, e11, e12⟩ := id hR
  subst e1; subst e2; subst e3; subst e4; subst e5; subst e6; subst e7; subst e8; subst e9; subst e10; subst e11; subst e12
  refine gq_goi (wc := [(h0, .inr (9, [.ref a0, .ref a1, .ref a2, .ref a3, .ref a4, .ref a5, .ref a6, .ref a7, .ref a8, .ref a9, .ref a10, .int ld, .ref a12, .ref a13, .ref a14, .ref a15, .ref a16, .ref a17, .ref a18, .ref a19, .ref a20, .ref a21, .ref a22, .ref a23, .ref a24, .int (nI dn), .int mo, .ref a27, .int (nI tz), .int fk, .int fp, .int so, .int (nI bg), .int (nI ten), .long wd, .int (nI tk), .int sd, .int nb, .int np, .int pli, .ref a40, .int rc, .int rR, .int rW, .int rX, .ref a45, .int (nI rs), .int cm, .ref a48, .ref a49, .int (nI sno), .ref a51])), (a0, .inl (cI, 3, .inl (fun j => nI (C j)))), (a1, .inl (cI, 9, .inl (fun j => nI (Mn j)))), (a2, .inl (cI, 108, .inl kd)), (a3, .inl (cI, 108, .inl cl)), (a4, .inl (cI, 108, .inl rg)), (a5, .inl (cI, 108, .inl uv1)), (a6, .inl (cI, 108, .inl ui1)), (a7, .inl (cI, 108, .inl uv2)), (a8, .inl (cI, 108, .inl ui2)), (a9, .inl (cI, 108, .inl sk))]) (wr := [(a10, .inl (cI, 12, .inl ci)), (a12, .inl (cI, 522000, .inl sf)), (a13, .inl (cI, 9000, .inl fr)), (a14, .inl (cI, 9000, .inl bf)), (a15, .inl (cI, 9000, .inl nf)), (a16, .inl (cI, 12288, .inl hf)), (a17, .inl (cI, 3, .inl (fun j => nI (S j)))), (a18, .inl (cZ, 3, .inl ff)), (a19, .inl (cZ, 3, .inl df)), (a20, .inl (cI, 9000, .inl en)), (a21, .inl (cI, 3, .inl (fun j => nI (E j)))), (a22, .inl (cI, 58, .inl nw)), (a23, .inl (cI, 58, .inl mf)), (a24, .inl (cI, 2900, .inl hh)), (a27, .inl (cB, 4000, .inl f)), (a40, .inl (cI, 12, .inl sp)), (a45, .inl (cI, 64, .inl rt)), (a48, .inl (cI, 2, .inl cu)), (a49, .inl (cI, 16, .inl spt)), (a51, .inl (cI, 13, .inl (fun j => nI (mv j))))]) (va_runV (As := [.int z1, .int z2, .int z3]) (rest := []) ⟨hx, hb, hml, hown, hts⟩ (x_ins9 l D cI cB cZ h0 a0 a1 a2 a3 a4 a5 a6 a7 a8 a9 (.ref a10) (.ref a12) (.ref a13) (.ref a14) (.ref a15) (.ref a16) (.ref a17) (.ref a18) (.ref a19) (.ref a20) (.ref a21) (.ref a22) (.ref a23) (.ref a24) (.int (nI dn)) (.int mo) (.ref a27) (.int (nI tz)) (.int fk) (.int fp) (.int so) (.int (nI bg)) (.int (nI ten)) (.long wd) (.int (nI tk)) (.int sd) (.int nb) (.int np) (.int pli) (.ref a40) (.int rc) (.int rR) (.int rW) (.int rX) (.ref a45) (.int (nI rs)) (.int cm) (.ref a48) (.ref a49) (.int (nI sno)) (.ref a51) ld C Mn kd cl rg uv1 ui1 uv2 ui2 sk z1 z2 z3 hB.1 hB.2.2.1 _) (cwV 3 hts gP_law__x_ins9 rfl rfl rfl (by decide +kernel) ⟨Nat.le_of_ble_eq_true rfl, Nat.le_of_ble_eq_true rfl⟩) (gx_preV (ci := 9) (q0 := 0) hK gN.nil (gq_Pl hP) (gq_Dl hD) [0, 1, 2, 3, 4, 5, 6, 7, 8, 9, 10] rfl rfl rfl rfl) rfl rfl hl.1 rfl (lv_room (Nat.le_of_ble_eq_true rfl)) dL_law_280 ⟨(Nat.le_trans (Nat.add_le_add_right hkb.1 _) (Nat.le_of_ble_eq_true rfl)), (Nat.le_trans (Nat.add_le_add_right hkb.2 _) (Nat.le_of_ble_eq_true rfl))⟩) hP hD hS hA [0, 1, 2, 3, 4, 5, 6, 7, 8, 9, 10] [11, 12, 13, 14, 15, 16, 17, 18, 19, 20, 21, 22, 23, 24, 25, 26, 27, 28, 29, 30] rfl rfl rfl (by decide) (fun r1 w1 H locs hp hP hD hS => ?_)
  obtain ⟨e_1, hp⟩ := hp
  obtain ⟨hx280_0, hp⟩ := hp
  obtain ⟨h9, hp⟩ := hp
  subst hp
  have h9 := h9.symm
  subst h9
  have hx280_0 : rIB ld (C 0) Mn (fun a b c => rP8 kd cl rg uv1 ui1 uv2 ui2 sk ((12 * a) + b) c) z1 z2 z3 e_1 := hx280_0
  have hP : va_P D vwCl ([(a10, .inl (cI, 12, .inl ci)), (a12, .inl (cI, 522000, .inl sf)), (a13, .inl (cI, 9000, .inl fr)), (a14, .inl (cI, 9000, .inl bf)), (a15, .inl (cI, 9000, .inl nf)), (a16, .inl (cI, 12288, .inl hf)), (a17, .inl (cI, 3, .inl (fun j => nI (S j)))), (a18, .inl (cZ, 3, .inl ff)), (a19, .inl (cZ, 3, .inl df)), (a20, .inl (cI, 9000, .inl en)), (a21, .inl (cI, 3, .inl (fun j => nI (E j)))), (a22, .inl (cI, 58, .inl nw)), (a23, .inl (cI, 58, .inl mf)), (a24, .inl (cI, 2900, .inl hh)), (a27, .inl (cB, 4000, .inl f)), (a40, .inl (cI, 12, .inl sp)), (a45, .inl (cI, 64, .inl rt)), (a48, .inl (cI, 2, .inl cu)), (a49, .inl (cI, 16, .inl spt)), (a51, .inl (cI, 13, .inl (fun j => nI (mv j)))), (h0, .inr (9, [.ref a0, .ref a1, .ref a2, .ref a3, .ref a4, .ref a5, .ref a6, .ref a7, .ref a8, .ref a9, .ref a10, .int ld, .ref a12, .ref a13, .ref a14, .ref a15, .ref a16, .ref a17, .ref a18, .ref a19, .ref a20, .ref a21, .ref a22, .ref a23, .ref a24, .int (nI dn), .int mo, .ref a27, .int (nI tz), .int fk, .int fp, .int so, .int (nI bg), .int (nI ten), .long wd, .int (nI tk), .int sd, .int nb, .int np, .int pli, .ref a40, .int rc, .int rR, .int rW, .int rX, .ref a45, .int (nI rs), .int cm, .ref a48, .ref a49, .int (nI sno), .ref a51])), (a0, .inl (cI, 3, .inl (fun j => nI (C j)))), (a1, .inl (cI, 9, .inl (fun j => nI (Mn j)))), (a2, .inl (cI, 108, .inl kd)), (a3, .inl (cI, 108, .inl cl)), (a4, .inl (cI, 108, .inl rg)), (a5, .inl (cI, 108, .inl uv1)), (a6, .inl (cI, 108, .inl ui1)), (a7, .inl (cI, 108, .inl uv2)), (a8, .inl (cI, 108, .inl ui2)), (a9, .inl (cI, 108, .inl sk))] ++ w9) H := hP
  have hD : va_D A ([(a10, .inl (cI, 12, .inl ci)), (a12, .inl (cI, 522000, .inl sf)), (a13, .inl (cI, 9000, .inl fr)), (a14, .inl (cI, 9000, .inl bf)), (a15, .inl (cI, 9000, .inl nf)), (a16, .inl (cI, 12288, .inl hf)), (a17, .inl (cI, 3, .inl (fun j => nI (S j)))), (a18, .inl (cZ, 3, .inl ff)), (a19, .inl (cZ, 3, .inl df)), (a20, .inl (cI, 9000, .inl en)), (a21, .inl (cI, 3, .inl (fun j => nI (E j)))), (a22, .inl (cI, 58, .inl nw)), (a23, .inl (cI, 58, .inl mf)), (a24, .inl (cI, 2900, .inl hh)), (a27, .inl (cB, 4000, .inl f)), (a40, .inl (cI, 12, .inl sp)), (a45, .inl (cI, 64, .inl rt)), (a48, .inl (cI, 2, .inl cu)), (a49, .inl (cI, 16, .inl spt)), (a51, .inl (cI, 13, .inl (fun j => nI (mv j)))), (h0, .inr (9, [.ref a0, .ref a1, .ref a2, .ref a3, .ref a4, .ref a5, .ref a6, .ref a7, .ref a8, .ref a9, .ref a10, .int ld, .ref a12, .ref a13, .ref a14, .ref a15, .ref a16, .ref a17, .ref a18, .ref a19, .ref a20, .ref a21, .ref a22, .ref a23, .ref a24, .int (nI dn), .int mo, .ref a27, .int (nI tz), .int fk, .int fp, .int so, .int (nI bg), .int (nI ten), .long wd, .int (nI tk), .int sd, .int nb, .int np, .int pli, .ref a40, .int rc, .int rR, .int rW, .int rX, .ref a45, .int (nI rs), .int cm, .ref a48, .ref a49, .int (nI sno), .ref a51])), (a0, .inl (cI, 3, .inl (fun j => nI (C j)))), (a1, .inl (cI, 9, .inl (fun j => nI (Mn j)))), (a2, .inl (cI, 108, .inl kd)), (a3, .inl (cI, 108, .inl cl)), (a4, .inl (cI, 108, .inl rg)), (a5, .inl (cI, 108, .inl uv1)), (a6, .inl (cI, 108, .inl ui1)), (a7, .inl (cI, 108, .inl uv2)), (a8, .inl (cI, 108, .inl ui2)), (a9, .inl (cI, 108, .inl sk))] ++ w9) := hD
  refine W.widen (k := kc) (n := ns) (Nat.le_refl _) (Nat.le_refl _) ?_
  have hP := gq_subP (X' := [(h0, .inr (9, [.ref a0, .ref a1, .ref a2, .ref a3, .ref a4, .ref a5, .ref a6, .ref a7, .ref a8, .ref a9, .ref a10, .int ld, .ref a12, .ref a13, .ref a14, .ref a15, .ref a16, .ref a17, .ref a18, .ref a19, .ref a20, .ref a21, .ref a22, .ref a23, .ref a24, .int (nI dn), .int mo, .ref a27, .int (nI tz), .int fk, .int fp, .int so, .int (nI bg), .int (nI ten), .long wd, .int (nI tk), .int sd, .int nb, .int np, .int pli, .ref a40, .int rc, .int rR, .int rW, .int rX, .ref a45, .int (nI rs), .int cm, .ref a48, .ref a49, .int (nI sno), .ref a51])), (a0, .inl (cI, 3, .inl (fun j => nI (C j)))), (a1, .inl (cI, 9, .inl (fun j => nI (Mn j)))), (a2, .inl (cI, 108, .inl kd)), (a3, .inl (cI, 108, .inl cl)), (a4, .inl (cI, 108, .inl rg)), (a5, .inl (cI, 108, .inl uv1)), (a6, .inl (cI, 108, .inl ui1)), (a7, .inl (cI, 108, .inl uv2)), (a8, .inl (cI, 108, .inl ui2)), (a9, .inl (cI, 108, .inl sk)), (a10, .inl (cI, 12, .inl ci)), (a12, .inl (cI, 522000, .inl sf)), (a13, .inl (cI, 9000, .inl fr)), (a14, .inl (cI, 9000, .inl bf)), (a15, .inl (cI, 9000, .inl nf)), (a16, .inl (cI, 12288, .inl hf)), (a17, .inl (cI, 3, .inl (fun j => nI (S j)))), (a18, .inl (cZ, 3, .inl ff)), (a19, .inl (cZ, 3, .inl df)), (a20, .inl (cI, 9000, .inl en)), (a21, .inl (cI, 3, .inl (fun j => nI (E j)))), (a22, .inl (cI, 58, .inl nw)), (a23, .inl (cI, 58, .inl mf)), (a24, .inl (cI, 2900, .inl hh)), (a27, .inl (cB, 4000, .inl f)), (a40, .inl (cI, 12, .inl sp)), (a45, .inl (cI, 64, .inl rt)), (a48, .inl (cI, 2, .inl cu)), (a49, .inl (cI, 16, .inl spt)), (a51, .inl (cI, 13, .inl (fun j => nI (mv j))))]) hP [20, 21, 22, 23, 24, 25, 26, 27, 28, 29, 30, 0, 1, 2, 3, 4, 5, 6, 7, 8, 9, 10, 11, 12, 13, 14, 15, 16, 17, 18, 19] rfl
  have hD := gq_subD (X' := [(h0, .inr (9, [.ref a0, .ref a1, .ref a2, .ref a3, .ref a4, .ref a5, .ref a6, .ref a7, .ref a8, .ref a9, .ref a10, .int ld, .ref a12, .ref a13, .ref a14, .ref a15, .ref a16, .ref a17, .ref a18, .ref a19, .ref a20, .ref a21, .ref a22, .ref a23, .ref a24, .int (nI dn), .int mo, .ref a27, .int (nI tz), .int fk, .int fp, .int so, .int (nI bg), .int (nI ten), .long wd, .int (nI tk), .int sd, .int nb, .int np, .int pli, .ref a40, .int rc, .int rR, .int rW, .int rX, .ref a45, .int (nI rs), .int cm, .ref a48, .ref a49, .int (nI sno), .ref a51])), (a0, .inl (cI, 3, .inl (fun j => nI (C j)))), (a1, .inl (cI, 9, .inl (fun j => nI (Mn j)))), (a2, .inl (cI, 108, .inl kd)), (a3, .inl (cI, 108, .inl cl)), (a4, .inl (cI, 108, .inl rg)), (a5, .inl (cI, 108, .inl uv1)), (a6, .inl (cI, 108, .inl ui1)), (a7, .inl (cI, 108, .inl uv2)), (a8, .inl (cI, 108, .inl ui2)), (a9, .inl (cI, 108, .inl sk)), (a10, .inl (cI, 12, .inl ci)), (a12, .inl (cI, 522000, .inl sf)), (a13, .inl (cI, 9000, .inl fr)), (a14, .inl (cI, 9000, .inl bf)), (a15, .inl (cI, 9000, .inl nf)), (a16, .inl (cI, 12288, .inl hf)), (a17, .inl (cI, 3, .inl (fun j => nI (S j)))), (a18, .inl (cZ, 3, .inl ff)), (a19, .inl (cZ, 3, .inl df)), (a20, .inl (cI, 9000, .inl en)), (a21, .inl (cI, 3, .inl (fun j => nI (E j)))), (a22, .inl (cI, 58, .inl nw)), (a23, .inl (cI, 58, .inl mf)), (a24, .inl (cI, 2900, .inl hh)), (a27, .inl (cB, 4000, .inl f)), (a40, .inl (cI, 12, .inl sp)), (a45, .inl (cI, 64, .inl rt)), (a48, .inl (cI, 2, .inl cu)), (a49, .inl (cI, 16, .inl spt)), (a51, .inl (cI, 13, .inl (fun j => nI (mv j))))]) hD [20, 21, 22, 23, 24, 25, 26, 27, 28, 29, 30, 0, 1, 2, 3, 4, 5, 6, 7, 8, 9, 10, 11, 12, 13, 14, 15, 16, 17, 18, 19] (by decide) rfl
  exact kk e_1 _ H locs (ModelI_mk cI cB cZ h0 tz f fp ld nc L cf pf vst vk vm vd a0 a1 a2 a3 a4 a5 a6 a7 a8 a9 a10 a12 a13 a14 a15 a16 a17 a18 a19 a20 a21 a22 a23 a24 a27 a40 a45 a48 a49 a51 C Mn kd cl rg uv1 ui1 uv2 ui2 sk ci sf fr bf nf hf S ff df en E nw mf hh sp rt cu spt mv dn mo fk so bg ten wd tk sd nb np pli rc rR rW rX rs cm sno htp hB hMo hAn hrs hcm hMP hMH) trivial hP hD hS
set_option maxHeartbeats 4000000 in
set_option maxRecDepth 100000 in
theorem md_begin {p : Program} {l : Launch} {e : Env} {s : State} {m : MethodId} {below : List Frame} {meth : Method} {c : Code} {b : Nat} {A : Nat → Prop} {Q : State → Prop} {D : va_G} {cI cB cZ : ClassId} {K : gKS} (G : gL p s m c b A D cI cB cZ K) {H : Heap} {locs : List Loc} {ls : Array Slot} {w8 w9 : va_W} {h0 tz kc ns tz9 : Nat} {f f9 : Nat → Int32} {fp ld fp9 ld9 : Int32} {nc nc9 : Nat} {L L9 : Nat → Nat} {cf cf9 : Nat → Int32} {pf pf9 : Nat → Int32} {vst vst9 : Int32} {vk vk9 : Nat} {vm vm9 : Int32} {vd vd9 : Nat → Int32} (hkb : kc ≤ 20000 ∧ ns ≤ 2000000) (hH : ModelI cI cB cZ h0 w8 tz f fp ld nc L cf pf vst vk vm vd) (hP : va_P D vwCl (w8 ++ w9) H) (hD : va_D A (w8 ++ w9)) (hS : va_S A s.heap H locs) (hl : ls.size = 4 ∧ True) (z1 : Int32) (r8 : Int32) (hR : (((r8 = 1 ∧ ¬ ld = 0 ∧ (z1 = 0 ∨ z1 = 1)) ∨ (r8 = 0 ∧ ¬ (¬ ld = 0 ∧ (z1 = 0 ∨ z1 = 1)))) ∧ ((r8 = 0 ∧ vst9 = vst ∧ vk9 = vk ∧ vm9 = vm) ∨ (r8 = 1 ∧ vst9 = 1 ∧ vk9 = 0 ∧ vm9 = z1))) ∧ tz = tz9 ∧ f = f9 ∧ fp = fp9 ∧ ld = ld9 ∧ nc = nc9 ∧ L = L9 ∧ cf = cf9 ∧ pf = pf9 ∧ vd = vd9) (kk : ∀ (r : Int32) (w8' : va_W) (H1 : Heap) (locs1 : List Loc), ModelI cI cB cZ h0 w8' tz9 f9 fp9 ld9 nc9 L9 cf9 pf9 vst9 vk9 vm9 vd9 → (True) → va_P D vwCl (w8' ++ w9) H1 → va_D A (w8' ++ w9) → va_S A s.heap H1 locs1 → W p l e room_1 s m #[Value.ref b] below meth c H1 locs1 kc ns Q (F0 m 306 ls [.int r])) : W p l e room_1 s m #[Value.ref b] below meth c H locs kc ns Q (F0 m 303 ls [.int z1, .ref h0]) := by
  obtain ⟨hx, hb, hml, hown, hts, hA, hK, hN, hE⟩ := G
  unfold ModelI at hH
  obtain ⟨a0, hH⟩ := hH
  obtain ⟨a1, hH⟩ := hH
  obtain ⟨a2, hH⟩ := hH
  obtain ⟨a3, hH⟩ := hH
  obtain ⟨a4, hH⟩ := hH
  obtain ⟨a5, hH⟩ := hH
  obtain ⟨a6, hH⟩ := hH
  obtain ⟨a7, hH⟩ := hH
  obtain ⟨a8, hH⟩ := hH
  obtain ⟨a9, hH⟩ := hH
  obtain ⟨a10, hH⟩ := hH
  obtain ⟨a12, hH⟩ := hH
  obtain ⟨a13, hH⟩ := hH
  obtain ⟨a14, hH⟩ := hH
  obtain ⟨a15, hH⟩ := hH
  obtain ⟨a16, hH⟩ := hH
  obtain ⟨a17, hH⟩ := hH
  obtain ⟨a18, hH⟩ := hH
  obtain ⟨a19, hH⟩ := hH
  obtain ⟨a20, hH⟩ := hH
  obtain ⟨a21, hH⟩ := hH
  obtain ⟨a22, hH⟩ := hH
  obtain ⟨a23, hH⟩ := hH
  obtain ⟨a24, hH⟩ := hH
  obtain ⟨a27, hH⟩ := hH
  obtain ⟨a40, hH⟩ := hH
  obtain ⟨a45, hH⟩ := hH
  obtain ⟨a48, hH⟩ := hH
  obtain ⟨a49, hH⟩ := hH
  obtain ⟨a51, hH⟩ := hH
  obtain ⟨C, hH⟩ := hH
  obtain ⟨Mn, hH⟩ := hH
  obtain ⟨kd, hH⟩ := hH
  obtain ⟨cl, hH⟩ := hH
  obtain ⟨rg, hH⟩ := hH
  obtain ⟨uv1, hH⟩ := hH
  obtain ⟨ui1, hH⟩ := hH
  obtain ⟨uv2, hH⟩ := hH
  obtain ⟨ui2, hH⟩ := hH
  obtain ⟨sk, hH⟩ := hH
  obtain ⟨ci, hH⟩ := hH
  obtain ⟨sf, hH⟩ := hH
  obtain ⟨fr, hH⟩ := hH
  obtain ⟨bf, hH⟩ := hH
  obtain ⟨nf, hH⟩ := hH
  obtain ⟨hf, hH⟩ := hH
  obtain ⟨S, hH⟩ := hH
  obtain ⟨ff, hH⟩ := hH
  obtain ⟨df, hH⟩ := hH
  obtain ⟨en, hH⟩ := hH
  obtain ⟨E, hH⟩ := hH
  obtain ⟨nw, hH⟩ := hH
  obtain ⟨mf, hH⟩ := hH
  obtain ⟨hh, hH⟩ := hH
  obtain ⟨sp, hH⟩ := hH
  obtain ⟨rt, hH⟩ := hH
  obtain ⟨cu, hH⟩ := hH
  obtain ⟨spt, hH⟩ := hH
  obtain ⟨mv, hH⟩ := hH
  obtain ⟨dn, hH⟩ := hH
  obtain ⟨mo, hH⟩ := hH
  obtain ⟨fk, hH⟩ := hH
  obtain ⟨so, hH⟩ := hH
  obtain ⟨bg, hH⟩ := hH
  obtain ⟨ten, hH⟩ := hH
  obtain ⟨wd, hH⟩ := hH
  obtain ⟨tk, hH⟩ := hH
  obtain ⟨sd, hH⟩ := hH
  obtain ⟨nb, hH⟩ := hH
  obtain ⟨np, hH⟩ := hH
  obtain ⟨pli, hH⟩ := hH
  obtain ⟨rc, hH⟩ := hH
  obtain ⟨rR, hH⟩ := hH
  obtain ⟨rW, hH⟩ := hH
  obtain ⟨rX, hH⟩ := hH
  obtain ⟨rs, hH⟩ := hH
  obtain ⟨cm, hH⟩ := hH
  obtain ⟨sno, hH⟩ := hH
  obtain ⟨htp, hH⟩ := hH
  obtain ⟨hB, hH⟩ := hH
  obtain ⟨hMo, hH⟩ := hH
  obtain ⟨hAn, hH⟩ := hH
  obtain ⟨hrs, hH⟩ := hH
  obtain ⟨hcm, hH⟩ := hH
  obtain ⟨hMP, hH⟩ := hH
  obtain ⟨hMH, hH⟩ := hH
  subst hH
  obtain ⟨-, e1, e2, e3, e4, e5, e6, e7, e8, e9⟩ := id hR
  subst e1; subst e2; subst e3; subst e4; subst e5; subst e6; subst e7; subst e8; subst e9
  refine gq_goi (wc := [(h0, .inr (9, [.ref a0, .ref a1, .ref a2, .ref a3, .ref a4, .ref a5, .ref a6, .ref a7, .ref a8, .ref a9, .ref a10, .int ld, .ref a12, .ref a13, .ref a14, .ref a15, .ref a16, .ref a17, .ref a18, .ref a19, .ref a20, .ref a21, .ref a22, .ref a23, .ref a24, .int (nI dn), .int mo, .ref a27, .int (nI tz), .int fk, .int fp, .int so, .int (nI bg), .int (nI ten), .long wd, .int (nI tk), .int sd, .int nb, .int np, .int pli, .ref a40, .int rc, .int rR, .int rW, .int rX, .ref a45, .int (nI rs), .int cm, .ref a48, .ref a49, .int (nI sno), .ref a51])), (a10, .inl (cI, 12, .inl ci)), (a22, .inl (cI, 58, .inl nw)), (a23, .inl (cI, 58, .inl mf))]) (wr := [(a0, .inl (cI, 3, .inl (fun j => nI (C j)))), (a1, .inl (cI, 9, .inl (fun j => nI (Mn j)))), (a2, .inl (cI, 108, .inl kd)), (a3, .inl (cI, 108, .inl cl)), (a4, .inl (cI, 108, .inl rg)), (a5, .inl (cI, 108, .inl uv1)), (a6, .inl (cI, 108, .inl ui1)), (a7, .inl (cI, 108, .inl uv2)), (a8, .inl (cI, 108, .inl ui2)), (a9, .inl (cI, 108, .inl sk)), (a12, .inl (cI, 522000, .inl sf)), (a13, .inl (cI, 9000, .inl fr)), (a14, .inl (cI, 9000, .inl bf)), (a15, .inl (cI, 9000, .inl nf)), (a16, .inl (cI, 12288, .inl hf)), (a17, .inl (cI, 3, .inl (fun j => nI (S j)))), (a18, .inl (cZ, 3, .inl ff)), (a19, .inl (cZ, 3, .inl df)), (a20, .inl (cI, 9000, .inl en)), (a21, .inl (cI, 3, .inl (fun j => nI (E j)))), (a24, .inl (cI, 2900, .inl hh)), (a27, .inl (cB, 4000, .inl f)), (a40, .inl (cI, 12, .inl sp)), (a45, .inl (cI, 64, .inl rt)), (a48, .inl (cI, 2, .inl cu)), (a49, .inl (cI, 16, .inl spt)), (a51, .inl (cI, 13, .inl (fun j => nI (mv j))))]) (va_runV (As := [.int z1]) (rest := []) ⟨hx, hb, hml, hown, hts⟩ (y_begin9 l D cI cB cZ h0 a10 a22 a23 (.ref a0) (.ref a1) (.ref a2) (.ref a3) (.ref a4) (.ref a5) (.ref a6) (.ref a7) (.ref a8) (.ref a9) (.ref a12) (.ref a13) (.ref a14) (.ref a15) (.ref a16) (.ref a17) (.ref a18) (.ref a19) (.ref a20) (.ref a21) (.ref a24) (.ref a27) (.int (nI tz)) (.int fk) (.int fp) (.int so) (.int (nI bg)) (.int (nI ten)) (.long wd) (.int (nI tk)) (.int sd) (.int nb) (.int np) (.int pli) (.ref a40) (.int rc) (.int rR) (.int rW) (.int rX) (.ref a45) (.int (nI rs)) (.int cm) (.ref a48) (.ref a49) (.int (nI sno)) (.ref a51) ld mo dn ci nw mf z1 _) (cwV 1 hts gP_law__y_begin9 rfl rfl rfl (by decide +kernel) ⟨Nat.le_of_ble_eq_true rfl, Nat.le_of_ble_eq_true rfl⟩) (gx_preV (ci := 9) (q0 := 0) hK gN.nil (gq_Pl hP) (gq_Dl hD) [0, 11, 22, 23] rfl rfl rfl rfl) rfl rfl hl.1 rfl (lv_room (Nat.le_of_ble_eq_true rfl)) dL_law_303 ⟨(Nat.le_trans (Nat.add_le_add_right hkb.1 _) (Nat.le_of_ble_eq_true rfl)), (Nat.le_trans (Nat.add_le_add_right hkb.2 _) (Nat.le_of_ble_eq_true rfl))⟩) hP hD hS hA [0, 11, 22, 23] [1, 2, 3, 4, 5, 6, 7, 8, 9, 10, 12, 13, 14, 15, 16, 17, 18, 19, 20, 21, 24, 25, 26, 27, 28, 29, 30] rfl rfl rfl (by decide) (fun r1 w1 H locs hp hP hD hS => ?_)
  obtain ⟨e_1, hp⟩ := hp
  obtain ⟨e_2, hp⟩ := hp
  obtain ⟨e_3, hp⟩ := hp
  obtain ⟨e_4, hp⟩ := hp
  obtain ⟨e_5, hp⟩ := hp
  obtain ⟨hq_6, hp⟩ := hp
  obtain ⟨hx303_0, hp⟩ := hp
  obtain ⟨hx303_1, hp⟩ := hp
  obtain ⟨h9, hp⟩ := hp
  subst hp
  have h9 := h9.symm
  subst h9
  have hq_6 : (e_1 = 0 ∧ e_2 = mo ∧ e_3 = dn ∧ e_5 = mf) ∨ (e_1 = 1 ∧ ¬ ld = 0 ∧ (e_2 = 0 ∨ e_2 = 1) ∧ e_3 = 0 ∧ ∀ j, j < 58 → (j < 12 ∨ 16 ≤ j) → e_5 j = 0) := hq_6
  have hx303_0 : (e_1 = 1 ∧ ¬ ld = 0 ∧ (z1 = 0 ∨ z1 = 1)) ∨ (e_1 = 0 ∧ ¬ (¬ ld = 0 ∧ (z1 = 0 ∨ z1 = 1))) := hx303_0
  have hx303_1 : (e_1 = 0 ∧ e_2 = mo ∧ e_3 = dn ∧ e_5 = mf) ∨ (e_1 = 1 ∧ e_2 = z1 ∧ e_3 = 0 ∧ (∀ j, j < 58 → (j < 12 ∨ 16 ≤ j) → e_5 j = 0) ∧ ∀ c, c < 4 → e_5 (12 + c) = ci c) := hx303_1
  have hP : va_P D vwCl ([(a0, .inl (cI, 3, .inl (fun j => nI (C j)))), (a1, .inl (cI, 9, .inl (fun j => nI (Mn j)))), (a2, .inl (cI, 108, .inl kd)), (a3, .inl (cI, 108, .inl cl)), (a4, .inl (cI, 108, .inl rg)), (a5, .inl (cI, 108, .inl uv1)), (a6, .inl (cI, 108, .inl ui1)), (a7, .inl (cI, 108, .inl uv2)), (a8, .inl (cI, 108, .inl ui2)), (a9, .inl (cI, 108, .inl sk)), (a12, .inl (cI, 522000, .inl sf)), (a13, .inl (cI, 9000, .inl fr)), (a14, .inl (cI, 9000, .inl bf)), (a15, .inl (cI, 9000, .inl nf)), (a16, .inl (cI, 12288, .inl hf)), (a17, .inl (cI, 3, .inl (fun j => nI (S j)))), (a18, .inl (cZ, 3, .inl ff)), (a19, .inl (cZ, 3, .inl df)), (a20, .inl (cI, 9000, .inl en)), (a21, .inl (cI, 3, .inl (fun j => nI (E j)))), (a24, .inl (cI, 2900, .inl hh)), (a27, .inl (cB, 4000, .inl f)), (a40, .inl (cI, 12, .inl sp)), (a45, .inl (cI, 64, .inl rt)), (a48, .inl (cI, 2, .inl cu)), (a49, .inl (cI, 16, .inl spt)), (a51, .inl (cI, 13, .inl (fun j => nI (mv j)))), (h0, .inr (9, [.ref a0, .ref a1, .ref a2, .ref a3, .ref a4, .ref a5, .ref a6, .ref a7, .ref a8, .ref a9, .ref a10, .int ld, .ref a12, .ref a13, .ref a14, .ref a15, .ref a16, .ref a17, .ref a18, .ref a19, .ref a20, .ref a21, .ref a22, .ref a23, .ref a24, .int (nI e_3), .int e_2, .ref a27, .int (nI tz), .int fk, .int fp, .int so, .int (nI bg), .int (nI ten), .long wd, .int (nI tk), .int sd, .int nb, .int np, .int pli, .ref a40, .int rc, .int rR, .int rW, .int rX, .ref a45, .int (nI rs), .int cm, .ref a48, .ref a49, .int (nI sno), .ref a51])), (a10, .inl (cI, 12, .inl ci)), (a22, .inl (cI, 58, .inl e_4)), (a23, .inl (cI, 58, .inl e_5))] ++ w9) H := hP
  have hD : va_D A ([(a0, .inl (cI, 3, .inl (fun j => nI (C j)))), (a1, .inl (cI, 9, .inl (fun j => nI (Mn j)))), (a2, .inl (cI, 108, .inl kd)), (a3, .inl (cI, 108, .inl cl)), (a4, .inl (cI, 108, .inl rg)), (a5, .inl (cI, 108, .inl uv1)), (a6, .inl (cI, 108, .inl ui1)), (a7, .inl (cI, 108, .inl uv2)), (a8, .inl (cI, 108, .inl ui2)), (a9, .inl (cI, 108, .inl sk)), (a12, .inl (cI, 522000, .inl sf)), (a13, .inl (cI, 9000, .inl fr)), (a14, .inl (cI, 9000, .inl bf)), (a15, .inl (cI, 9000, .inl nf)), (a16, .inl (cI, 12288, .inl hf)), (a17, .inl (cI, 3, .inl (fun j => nI (S j)))), (a18, .inl (cZ, 3, .inl ff)), (a19, .inl (cZ, 3, .inl df)), (a20, .inl (cI, 9000, .inl en)), (a21, .inl (cI, 3, .inl (fun j => nI (E j)))), (a24, .inl (cI, 2900, .inl hh)), (a27, .inl (cB, 4000, .inl f)), (a40, .inl (cI, 12, .inl sp)), (a45, .inl (cI, 64, .inl rt)), (a48, .inl (cI, 2, .inl cu)), (a49, .inl (cI, 16, .inl spt)), (a51, .inl (cI, 13, .inl (fun j => nI (mv j)))), (h0, .inr (9, [.ref a0, .ref a1, .ref a2, .ref a3, .ref a4, .ref a5, .ref a6, .ref a7, .ref a8, .ref a9, .ref a10, .int ld, .ref a12, .ref a13, .ref a14, .ref a15, .ref a16, .ref a17, .ref a18, .ref a19, .ref a20, .ref a21, .ref a22, .ref a23, .ref a24, .int (nI e_3), .int e_2, .ref a27, .int (nI tz), .int fk, .int fp, .int so, .int (nI bg), .int (nI ten), .long wd, .int (nI tk), .int sd, .int nb, .int np, .int pli, .ref a40, .int rc, .int rR, .int rW, .int rX, .ref a45, .int (nI rs), .int cm, .ref a48, .ref a49, .int (nI sno), .ref a51])), (a10, .inl (cI, 12, .inl ci)), (a22, .inl (cI, 58, .inl e_4)), (a23, .inl (cI, 58, .inl e_5))] ++ w9) := hD
  refine W.widen (k := kc) (n := ns) (Nat.le_refl _) (Nat.le_refl _) ?_
  have hP := gq_subP (X' := [(h0, .inr (9, [.ref a0, .ref a1, .ref a2, .ref a3, .ref a4, .ref a5, .ref a6, .ref a7, .ref a8, .ref a9, .ref a10, .int ld, .ref a12, .ref a13, .ref a14, .ref a15, .ref a16, .ref a17, .ref a18, .ref a19, .ref a20, .ref a21, .ref a22, .ref a23, .ref a24, .int (nI e_3), .int e_2, .ref a27, .int (nI tz), .int fk, .int fp, .int so, .int (nI bg), .int (nI ten), .long wd, .int (nI tk), .int sd, .int nb, .int np, .int pli, .ref a40, .int rc, .int rR, .int rW, .int rX, .ref a45, .int (nI rs), .int cm, .ref a48, .ref a49, .int (nI sno), .ref a51])), (a0, .inl (cI, 3, .inl (fun j => nI (C j)))), (a1, .inl (cI, 9, .inl (fun j => nI (Mn j)))), (a2, .inl (cI, 108, .inl kd)), (a3, .inl (cI, 108, .inl cl)), (a4, .inl (cI, 108, .inl rg)), (a5, .inl (cI, 108, .inl uv1)), (a6, .inl (cI, 108, .inl ui1)), (a7, .inl (cI, 108, .inl uv2)), (a8, .inl (cI, 108, .inl ui2)), (a9, .inl (cI, 108, .inl sk)), (a10, .inl (cI, 12, .inl ci)), (a12, .inl (cI, 522000, .inl sf)), (a13, .inl (cI, 9000, .inl fr)), (a14, .inl (cI, 9000, .inl bf)), (a15, .inl (cI, 9000, .inl nf)), (a16, .inl (cI, 12288, .inl hf)), (a17, .inl (cI, 3, .inl (fun j => nI (S j)))), (a18, .inl (cZ, 3, .inl ff)), (a19, .inl (cZ, 3, .inl df)), (a20, .inl (cI, 9000, .inl en)), (a21, .inl (cI, 3, .inl (fun j => nI (E j)))), (a22, .inl (cI, 58, .inl e_4)), (a23, .inl (cI, 58, .inl e_5)), (a24, .inl (cI, 2900, .inl hh)), (a27, .inl (cB, 4000, .inl f)), (a40, .inl (cI, 12, .inl sp)), (a45, .inl (cI, 64, .inl rt)), (a48, .inl (cI, 2, .inl cu)), (a49, .inl (cI, 16, .inl spt)), (a51, .inl (cI, 13, .inl (fun j => nI (mv j))))]) hP [27, 0, 1, 2, 3, 4, 5, 6, 7, 8, 9, 28, 10, 11, 12, 13, 14, 15, 16, 17, 18, 19, 29, 30, 20, 21, 22, 23, 24, 25, 26] rfl
  have hD := gq_subD (X' := [(h0, .inr (9, [.ref a0, .ref a1, .ref a2, .ref a3, .ref a4, .ref a5, .ref a6, .ref a7, .ref a8, .ref a9, .ref a10, .int ld, .ref a12, .ref a13, .ref a14, .ref a15, .ref a16, .ref a17, .ref a18, .ref a19, .ref a20, .ref a21, .ref a22, .ref a23, .ref a24, .int (nI e_3), .int e_2, .ref a27, .int (nI tz), .int fk, .int fp, .int so, .int (nI bg), .int (nI ten), .long wd, .int (nI tk), .int sd, .int nb, .int np, .int pli, .ref a40, .int rc, .int rR, .int rW, .int rX, .ref a45, .int (nI rs), .int cm, .ref a48, .ref a49, .int (nI sno), .ref a51])), (a0, .inl (cI, 3, .inl (fun j => nI (C j)))), (a1, .inl (cI, 9, .inl (fun j => nI (Mn j)))), (a2, .inl (cI, 108, .inl kd)), (a3, .inl (cI, 108, .inl cl)), (a4, .inl (cI, 108, .inl rg)), (a5, .inl (cI, 108, .inl uv1)), (a6, .inl (cI, 108, .inl ui1)), (a7, .inl (cI, 108, .inl uv2)), (a8, .inl (cI, 108, .inl ui2)), (a9, .inl (cI, 108, .inl sk)), (a10, .inl (cI, 12, .inl ci)), (a12, .inl (cI, 522000, .inl sf)), (a13, .inl (cI, 9000, .inl fr)), (a14, .inl (cI, 9000, .inl bf)), (a15, .inl (cI, 9000, .inl nf)), (a16, .inl (cI, 12288, .inl hf)), (a17, .inl (cI, 3, .inl (fun j => nI (S j)))), (a18, .inl (cZ, 3, .inl ff)), (a19, .inl (cZ, 3, .inl df)), (a20, .inl (cI, 9000, .inl en)), (a21, .inl (cI, 3, .inl (fun j => nI (E j)))), (a22, .inl (cI, 58, .inl e_4)), (a23, .inl (cI, 58, .inl e_5)), (a24, .inl (cI, 2900, .inl hh)), (a27, .inl (cB, 4000, .inl f)), (a40, .inl (cI, 12, .inl sp)), (a45, .inl (cI, 64, .inl rt)), (a48, .inl (cI, 2, .inl cu)), (a49, .inl (cI, 16, .inl spt)), (a51, .inl (cI, 13, .inl (fun j => nI (mv j))))]) hD [27, 0, 1, 2, 3, 4, 5, 6, 7, 8, 9, 28, 10, 11, 12, 13, 14, 15, 16, 17, 18, 19, 29, 30, 20, 21, 22, 23, 24, 25, 26] (by decide) rfl
  exact kk e_1 _ H locs (ModelI_mk cI cB cZ h0 tz f fp ld nc L cf pf vst9 vk9 vm9 vd a0 a1 a2 a3 a4 a5 a6 a7 a8 a9 a10 a12 a13 a14 a15 a16 a17 a18 a19 a20 a21 a22 a23 a24 a27 a40 a45 a48 a49 a51 C Mn kd cl rg uv1 ui1 uv2 ui2 sk ci sf fr bf nf hf S ff df en E e_4 e_5 hh sp rt cu spt mv e_3 e_2 fk so bg ten wd tk sd nb np pli rc rR rW rX rs cm sno htp hB (gMo_b hMo hq_6) hAn hrs hcm hMP (bg_mh hMH (fun h => (hMP h).2.2) (bg_eq hR.1.1 hx303_0) hR.1.1 hR.1.2 hx303_1)) trivial hP hD hS
set_option maxHeartbeats 4000000 in
set_option maxRecDepth 100000 in
theorem md_step {p : Program} {l : Launch} {e : Env} {s : State} {m : MethodId} {below : List Frame} {meth : Method} {c : Code} {b : Nat} {A : Nat → Prop} {Q : State → Prop} {D : va_G} {cI cB cZ : ClassId} {K : gKS} (G : gL p s m c b A D cI cB cZ K) {H : Heap} {locs : List Loc} {ls : Array Slot} {w8 w9 : va_W} {h0 tz kc ns tz9 : Nat} {f f9 : Nat → Int32} {fp ld fp9 ld9 : Int32} {nc nc9 : Nat} {L L9 : Nat → Nat} {cf cf9 : Nat → Int32} {pf pf9 : Nat → Int32} {vst vst9 : Int32} {vk vk9 : Nat} {vm vm9 : Int32} {vd vd9 : Nat → Int32} (hkb : kc ≤ 20000 ∧ ns ≤ 2000000) (hH : ModelI cI cB cZ h0 w8 tz f fp ld nc L cf pf vst vk vm vd) (hP : va_P D vwCl (w8 ++ w9) H) (hD : va_D A (w8 ++ w9)) (hS : va_S A s.heap H locs) (hl : ls.size = 4 ∧ True) (z1 : Int32) (r8 : Int32) (hR : (((r8 = 0 ∧ vk9 = vk ∧ vd9 = vd ∧ (vst = 0 ∨ 38 ≤ vk ∨ ¬ gCE ((gRun pf cf vm vd vk)) pf L nc z1)) ∨ (r8 = 1 ∧ ¬ vst = 0 ∧ vk9 = vk + 1 ∧ vd9 = upd vd vk z1 ∧ vk < 38 ∧ gCE ((gRun pf cf vm vd vk)) pf L nc z1)) ∧ nc ≤ 3 ∧ (∀ j, j < 3 → L j ≤ 6) ∧ gG L pf 5) ∧ tz = tz9 ∧ f = f9 ∧ fp = fp9 ∧ ld = ld9 ∧ nc = nc9 ∧ L = L9 ∧ cf = cf9 ∧ pf = pf9 ∧ vst = vst9 ∧ vm = vm9) (kk : ∀ (r : Int32) (w8' : va_W) (H1 : Heap) (locs1 : List Loc), ModelI cI cB cZ h0 w8' tz9 f9 fp9 ld9 nc9 L9 cf9 pf9 vst9 vk9 vm9 vd9 → (True) → va_P D vwCl (w8' ++ w9) H1 → va_D A (w8' ++ w9) → va_S A s.heap H1 locs1 → W p l e room_1 s m #[Value.ref b] below meth c H1 locs1 kc ns Q (F0 m 329 ls [.int r])) : W p l e room_1 s m #[Value.ref b] below meth c H locs kc ns Q (F0 m 326 ls [.int z1, .ref h0]) := by
  obtain ⟨hx, hb, hml, hown, hts, hA, hK, hN, hE⟩ := G
  unfold ModelI at hH
  obtain ⟨a0, hH⟩ := hH
  obtain ⟨a1, hH⟩ := hH
  obtain ⟨a2, hH⟩ := hH
  obtain ⟨a3, hH⟩ := hH
  obtain ⟨a4, hH⟩ := hH
  obtain ⟨a5, hH⟩ := hH
  obtain ⟨a6, hH⟩ := hH
  obtain ⟨a7, hH⟩ := hH
  obtain ⟨a8, hH⟩ := hH
  obtain ⟨a9, hH⟩ := hH
  obtain ⟨a10, hH⟩ := hH
  obtain ⟨a12, hH⟩ := hH
  obtain ⟨a13, hH⟩ := hH
  obtain ⟨a14, hH⟩ := hH
  obtain ⟨a15, hH⟩ := hH
  obtain ⟨a16, hH⟩ := hH
  obtain ⟨a17, hH⟩ := hH
  obtain ⟨a18, hH⟩ := hH
  obtain ⟨a19, hH⟩ := hH
  obtain ⟨a20, hH⟩ := hH
  obtain ⟨a21, hH⟩ := hH
  obtain ⟨a22, hH⟩ := hH
  obtain ⟨a23, hH⟩ := hH
  obtain ⟨a24, hH⟩ := hH
  obtain ⟨a27, hH⟩ := hH
  obtain ⟨a40, hH⟩ := hH
  obtain ⟨a45, hH⟩ := hH
  obtain ⟨a48, hH⟩ := hH
  obtain ⟨a49, hH⟩ := hH
  obtain ⟨a51, hH⟩ := hH
  obtain ⟨C, hH⟩ := hH
  obtain ⟨Mn, hH⟩ := hH
  obtain ⟨kd, hH⟩ := hH
  obtain ⟨cl, hH⟩ := hH
  obtain ⟨rg, hH⟩ := hH
  obtain ⟨uv1, hH⟩ := hH
  obtain ⟨ui1, hH⟩ := hH
  obtain ⟨uv2, hH⟩ := hH
  obtain ⟨ui2, hH⟩ := hH
  obtain ⟨sk, hH⟩ := hH
  obtain ⟨ci, hH⟩ := hH
  obtain ⟨sf, hH⟩ := hH
  obtain ⟨fr, hH⟩ := hH
  obtain ⟨bf, hH⟩ := hH
  obtain ⟨nf, hH⟩ := hH
  obtain ⟨hf, hH⟩ := hH
  obtain ⟨S, hH⟩ := hH
  obtain ⟨ff, hH⟩ := hH
  obtain ⟨df, hH⟩ := hH
  obtain ⟨en, hH⟩ := hH
  obtain ⟨E, hH⟩ := hH
  obtain ⟨nw, hH⟩ := hH
  obtain ⟨mf, hH⟩ := hH
  obtain ⟨hh, hH⟩ := hH
  obtain ⟨sp, hH⟩ := hH
  obtain ⟨rt, hH⟩ := hH
  obtain ⟨cu, hH⟩ := hH
  obtain ⟨spt, hH⟩ := hH
  obtain ⟨mv, hH⟩ := hH
  obtain ⟨dn, hH⟩ := hH
  obtain ⟨mo, hH⟩ := hH
  obtain ⟨fk, hH⟩ := hH
  obtain ⟨so, hH⟩ := hH
  obtain ⟨bg, hH⟩ := hH
  obtain ⟨ten, hH⟩ := hH
  obtain ⟨wd, hH⟩ := hH
  obtain ⟨tk, hH⟩ := hH
  obtain ⟨sd, hH⟩ := hH
  obtain ⟨nb, hH⟩ := hH
  obtain ⟨np, hH⟩ := hH
  obtain ⟨pli, hH⟩ := hH
  obtain ⟨rc, hH⟩ := hH
  obtain ⟨rR, hH⟩ := hH
  obtain ⟨rW, hH⟩ := hH
  obtain ⟨rX, hH⟩ := hH
  obtain ⟨rs, hH⟩ := hH
  obtain ⟨cm, hH⟩ := hH
  obtain ⟨sno, hH⟩ := hH
  obtain ⟨htp, hH⟩ := hH
  obtain ⟨hB, hH⟩ := hH
  obtain ⟨hMo, hH⟩ := hH
  obtain ⟨hAn, hH⟩ := hH
  obtain ⟨hrs, hH⟩ := hH
  obtain ⟨hcm, hH⟩ := hH
  obtain ⟨hMP, hH⟩ := hH
  obtain ⟨hMH, hH⟩ := hH
  subst hH
  obtain ⟨-, e1, e2, e3, e4, e5, e6, e7, e8, e9, e10⟩ := id hR
  subst e1; subst e2; subst e3; subst e4; subst e5; subst e6; subst e7; subst e8; subst e9; subst e10
  rcases id hMo with hm0 | hmo
  · subst hm0
    have hv0 : vst = 0 := (mq_ok hMH).elim And.left (fun h => absurd (by decide) h.2.1)
    obtain ⟨hrz, hq1, hq2, _⟩ := hR.1.1.resolve_right (fun h => h.2.1 hv0)
    have hq1 := hq1.symm; subst hq1; have hq2 := hq2.symm; subst hq2
    refine gq_goi (wc := [(h0, .inr (9, [.ref a0, .ref a1, .ref a2, .ref a3, .ref a4, .ref a5, .ref a6, .ref a7, .ref a8, .ref a9, .ref a10, .int ld, .ref a12, .ref a13, .ref a14, .ref a15, .ref a16, .ref a17, .ref a18, .ref a19, .ref a20, .ref a21, .ref a22, .ref a23, .ref a24, .int (nI dn), .int (-1), .ref a27, .int (nI tz), .int fk, .int fp, .int so, .int (nI bg), .int (nI ten), .long wd, .int (nI tk), .int sd, .int nb, .int np, .int pli, .ref a40, .int rc, .int rR, .int rW, .int rX, .ref a45, .int (nI rs), .int cm, .ref a48, .ref a49, .int (nI sno), .ref a51]))]) (wr := [(a0, .inl (cI, 3, .inl (fun j => nI (C j)))), (a1, .inl (cI, 9, .inl (fun j => nI (Mn j)))), (a2, .inl (cI, 108, .inl kd)), (a3, .inl (cI, 108, .inl cl)), (a4, .inl (cI, 108, .inl rg)), (a5, .inl (cI, 108, .inl uv1)), (a6, .inl (cI, 108, .inl ui1)), (a7, .inl (cI, 108, .inl uv2)), (a8, .inl (cI, 108, .inl ui2)), (a9, .inl (cI, 108, .inl sk)), (a10, .inl (cI, 12, .inl ci)), (a12, .inl (cI, 522000, .inl sf)), (a13, .inl (cI, 9000, .inl fr)), (a14, .inl (cI, 9000, .inl bf)), (a15, .inl (cI, 9000, .inl nf)), (a16, .inl (cI, 12288, .inl hf)), (a17, .inl (cI, 3, .inl (fun j => nI (S j)))), (a18, .inl (cZ, 3, .inl ff)), (a19, .inl (cZ, 3, .inl df)), (a20, .inl (cI, 9000, .inl en)), (a21, .inl (cI, 3, .inl (fun j => nI (E j)))), (a22, .inl (cI, 58, .inl nw)), (a23, .inl (cI, 58, .inl mf)), (a24, .inl (cI, 2900, .inl hh)), (a27, .inl (cB, 4000, .inl f)), (a40, .inl (cI, 12, .inl sp)), (a45, .inl (cI, 64, .inl rt)), (a48, .inl (cI, 2, .inl cu)), (a49, .inl (cI, 16, .inl spt)), (a51, .inl (cI, 13, .inl (fun j => nI (mv j))))]) (va_runV (As := [.int z1]) (rest := []) ⟨hx, hb, hml, hown, hts⟩ (c_step9n l D cI cB cZ h0 (.ref a0) (.ref a1) (.ref a2) (.ref a3) (.ref a4) (.ref a5) (.ref a6) (.ref a7) (.ref a8) (.ref a9) (.ref a10) (.int ld) (.ref a12) (.ref a13) (.ref a14) (.ref a15) (.ref a16) (.ref a17) (.ref a18) (.ref a19) (.ref a20) (.ref a21) (.ref a22) (.ref a23) (.ref a24) (.int (nI dn)) (.ref a27) (.int (nI tz)) (.int fk) (.int fp) (.int so) (.int (nI bg)) (.int (nI ten)) (.long wd) (.int (nI tk)) (.int sd) (.int nb) (.int np) (.int pli) (.ref a40) (.int rc) (.int rR) (.int rW) (.int rX) (.ref a45) (.int (nI rs)) (.int cm) (.ref a48) (.ref a49) (.int (nI sno)) (.ref a51) z1 _) (cwV 1 hts gP_law__c_step9n rfl rfl rfl (by decide +kernel) ⟨Nat.le_of_ble_eq_true rfl, Nat.le_of_ble_eq_true rfl⟩) (gx_preV (ci := 9) (q0 := 0) hK gN.nil (gq_Pl hP) (gq_Dl hD) [0] rfl rfl rfl rfl) rfl rfl hl.1 rfl (lv_room (Nat.le_of_ble_eq_true rfl)) dL_law_326 ⟨(Nat.le_trans (Nat.add_le_add_right hkb.1 _) (Nat.le_of_ble_eq_true rfl)), (Nat.le_trans (Nat.add_le_add_right hkb.2 _) (Nat.le_of_ble_eq_true rfl))⟩) hP hD hS hA [0] [1, 2, 3, 4, 5, 6, 7, 8, 9, 10, 11, 12, 13, 14, 15, 16, 17, 18, 19, 20, 21, 22, 23, 24, 25, 26, 27, 28, 29, 30] rfl rfl rfl (by decide) (fun r1 w1 H locs hp hP hD hS => ?_)
    obtain ⟨h9, hp⟩ := hp
    subst hp
    have h9 := h9.symm
    subst h9
    have hP : va_P D vwCl ([(a0, .inl (cI, 3, .inl (fun j => nI (C j)))), (a1, .inl (cI, 9, .inl (fun j => nI (Mn j)))), (a2, .inl (cI, 108, .inl kd)), (a3, .inl (cI, 108, .inl cl)), (a4, .inl (cI, 108, .inl rg)), (a5, .inl (cI, 108, .inl uv1)), (a6, .inl (cI, 108, .inl ui1)), (a7, .inl (cI, 108, .inl uv2)), (a8, .inl (cI, 108, .inl ui2)), (a9, .inl (cI, 108, .inl sk)), (a10, .inl (cI, 12, .inl ci)), (a12, .inl (cI, 522000, .inl sf)), (a13, .inl (cI, 9000, .inl fr)), (a14, .inl (cI, 9000, .inl bf)), (a15, .inl (cI, 9000, .inl nf)), (a16, .inl (cI, 12288, .inl hf)), (a17, .inl (cI, 3, .inl (fun j => nI (S j)))), (a18, .inl (cZ, 3, .inl ff)), (a19, .inl (cZ, 3, .inl df)), (a20, .inl (cI, 9000, .inl en)), (a21, .inl (cI, 3, .inl (fun j => nI (E j)))), (a22, .inl (cI, 58, .inl nw)), (a23, .inl (cI, 58, .inl mf)), (a24, .inl (cI, 2900, .inl hh)), (a27, .inl (cB, 4000, .inl f)), (a40, .inl (cI, 12, .inl sp)), (a45, .inl (cI, 64, .inl rt)), (a48, .inl (cI, 2, .inl cu)), (a49, .inl (cI, 16, .inl spt)), (a51, .inl (cI, 13, .inl (fun j => nI (mv j)))), (h0, .inr (9, [.ref a0, .ref a1, .ref a2, .ref a3, .ref a4, .ref a5, .ref a6, .ref a7, .ref a8, .ref a9, .ref a10, .int ld, .ref a12, .ref a13, .ref a14, .ref a15, .ref a16, .ref a17, .ref a18, .ref a19, .ref a20, .ref a21, .ref a22, .ref a23, .ref a24, .int (nI dn), .int (-1), .ref a27, .int (nI tz), .int fk, .int fp, .int so, .int (nI bg), .int (nI ten), .long wd, .int (nI tk), .int sd, .int nb, .int np, .int pli, .ref a40, .int rc, .int rR, .int rW, .int rX, .ref a45, .int (nI rs), .int cm, .ref a48, .ref a49, .int (nI sno), .ref a51]))] ++ w9) H := hP
    have hD : va_D A ([(a0, .inl (cI, 3, .inl (fun j => nI (C j)))), (a1, .inl (cI, 9, .inl (fun j => nI (Mn j)))), (a2, .inl (cI, 108, .inl kd)), (a3, .inl (cI, 108, .inl cl)), (a4, .inl (cI, 108, .inl rg)), (a5, .inl (cI, 108, .inl uv1)), (a6, .inl (cI, 108, .inl ui1)), (a7, .inl (cI, 108, .inl uv2)), (a8, .inl (cI, 108, .inl ui2)), (a9, .inl (cI, 108, .inl sk)), (a10, .inl (cI, 12, .inl ci)), (a12, .inl (cI, 522000, .inl sf)), (a13, .inl (cI, 9000, .inl fr)), (a14, .inl (cI, 9000, .inl bf)), (a15, .inl (cI, 9000, .inl nf)), (a16, .inl (cI, 12288, .inl hf)), (a17, .inl (cI, 3, .inl (fun j => nI (S j)))), (a18, .inl (cZ, 3, .inl ff)), (a19, .inl (cZ, 3, .inl df)), (a20, .inl (cI, 9000, .inl en)), (a21, .inl (cI, 3, .inl (fun j => nI (E j)))), (a22, .inl (cI, 58, .inl nw)), (a23, .inl (cI, 58, .inl mf)), (a24, .inl (cI, 2900, .inl hh)), (a27, .inl (cB, 4000, .inl f)), (a40, .inl (cI, 12, .inl sp)), (a45, .inl (cI, 64, .inl rt)), (a48, .inl (cI, 2, .inl cu)), (a49, .inl (cI, 16, .inl spt)), (a51, .inl (cI, 13, .inl (fun j => nI (mv j)))), (h0, .inr (9, [.ref a0, .ref a1, .ref a2, .ref a3, .ref a4, .ref a5, .ref a6, .ref a7, .ref a8, .ref a9, .ref a10, .int ld, .ref a12, .ref a13, .ref a14, .ref a15, .ref a16, .ref a17, .ref a18, .ref a19, .ref a20, .ref a21, .ref a22, .ref a23, .ref a24, .int (nI dn), .int (-1), .ref a27, .int (nI tz), .int fk, .int fp, .int so, .int (nI bg), .int (nI ten), .long wd, .int (nI tk), .int sd, .int nb, .int np, .int pli, .ref a40, .int rc, .int rR, .int rW, .int rX, .ref a45, .int (nI rs), .int cm, .ref a48, .ref a49, .int (nI sno), .ref a51]))] ++ w9) := hD
    refine W.widen (k := kc) (n := ns) (Nat.le_refl _) (Nat.le_refl _) ?_
    have hP := gq_subP (X' := [(h0, .inr (9, [.ref a0, .ref a1, .ref a2, .ref a3, .ref a4, .ref a5, .ref a6, .ref a7, .ref a8, .ref a9, .ref a10, .int ld, .ref a12, .ref a13, .ref a14, .ref a15, .ref a16, .ref a17, .ref a18, .ref a19, .ref a20, .ref a21, .ref a22, .ref a23, .ref a24, .int (nI dn), .int (-1), .ref a27, .int (nI tz), .int fk, .int fp, .int so, .int (nI bg), .int (nI ten), .long wd, .int (nI tk), .int sd, .int nb, .int np, .int pli, .ref a40, .int rc, .int rR, .int rW, .int rX, .ref a45, .int (nI rs), .int cm, .ref a48, .ref a49, .int (nI sno), .ref a51])), (a0, .inl (cI, 3, .inl (fun j => nI (C j)))), (a1, .inl (cI, 9, .inl (fun j => nI (Mn j)))), (a2, .inl (cI, 108, .inl kd)), (a3, .inl (cI, 108, .inl cl)), (a4, .inl (cI, 108, .inl rg)), (a5, .inl (cI, 108, .inl uv1)), (a6, .inl (cI, 108, .inl ui1)), (a7, .inl (cI, 108, .inl uv2)), (a8, .inl (cI, 108, .inl ui2)), (a9, .inl (cI, 108, .inl sk)), (a10, .inl (cI, 12, .inl ci)), (a12, .inl (cI, 522000, .inl sf)), (a13, .inl (cI, 9000, .inl fr)), (a14, .inl (cI, 9000, .inl bf)), (a15, .inl (cI, 9000, .inl nf)), (a16, .inl (cI, 12288, .inl hf)), (a17, .inl (cI, 3, .inl (fun j => nI (S j)))), (a18, .inl (cZ, 3, .inl ff)), (a19, .inl (cZ, 3, .inl df)), (a20, .inl (cI, 9000, .inl en)), (a21, .inl (cI, 3, .inl (fun j => nI (E j)))), (a22, .inl (cI, 58, .inl nw)), (a23, .inl (cI, 58, .inl mf)), (a24, .inl (cI, 2900, .inl hh)), (a27, .inl (cB, 4000, .inl f)), (a40, .inl (cI, 12, .inl sp)), (a45, .inl (cI, 64, .inl rt)), (a48, .inl (cI, 2, .inl cu)), (a49, .inl (cI, 16, .inl spt)), (a51, .inl (cI, 13, .inl (fun j => nI (mv j))))]) hP [30, 0, 1, 2, 3, 4, 5, 6, 7, 8, 9, 10, 11, 12, 13, 14, 15, 16, 17, 18, 19, 20, 21, 22, 23, 24, 25, 26, 27, 28, 29] rfl
    have hD := gq_subD (X' := [(h0, .inr (9, [.ref a0, .ref a1, .ref a2, .ref a3, .ref a4, .ref a5, .ref a6, .ref a7, .ref a8, .ref a9, .ref a10, .int ld, .ref a12, .ref a13, .ref a14, .ref a15, .ref a16, .ref a17, .ref a18, .ref a19, .ref a20, .ref a21, .ref a22, .ref a23, .ref a24, .int (nI dn), .int (-1), .ref a27, .int (nI tz), .int fk, .int fp, .int so, .int (nI bg), .int (nI ten), .long wd, .int (nI tk), .int sd, .int nb, .int np, .int pli, .ref a40, .int rc, .int rR, .int rW, .int rX, .ref a45, .int (nI rs), .int cm, .ref a48, .ref a49, .int (nI sno), .ref a51])), (a0, .inl (cI, 3, .inl (fun j => nI (C j)))), (a1, .inl (cI, 9, .inl (fun j => nI (Mn j)))), (a2, .inl (cI, 108, .inl kd)), (a3, .inl (cI, 108, .inl cl)), (a4, .inl (cI, 108, .inl rg)), (a5, .inl (cI, 108, .inl uv1)), (a6, .inl (cI, 108, .inl ui1)), (a7, .inl (cI, 108, .inl uv2)), (a8, .inl (cI, 108, .inl ui2)), (a9, .inl (cI, 108, .inl sk)), (a10, .inl (cI, 12, .inl ci)), (a12, .inl (cI, 522000, .inl sf)), (a13, .inl (cI, 9000, .inl fr)), (a14, .inl (cI, 9000, .inl bf)), (a15, .inl (cI, 9000, .inl nf)), (a16, .inl (cI, 12288, .inl hf)), (a17, .inl (cI, 3, .inl (fun j => nI (S j)))), (a18, .inl (cZ, 3, .inl ff)), (a19, .inl (cZ, 3, .inl df)), (a20, .inl (cI, 9000, .inl en)), (a21, .inl (cI, 3, .inl (fun j => nI (E j)))), (a22, .inl (cI, 58, .inl nw)), (a23, .inl (cI, 58, .inl mf)), (a24, .inl (cI, 2900, .inl hh)), (a27, .inl (cB, 4000, .inl f)), (a40, .inl (cI, 12, .inl sp)), (a45, .inl (cI, 64, .inl rt)), (a48, .inl (cI, 2, .inl cu)), (a49, .inl (cI, 16, .inl spt)), (a51, .inl (cI, 13, .inl (fun j => nI (mv j))))]) hD [30, 0, 1, 2, 3, 4, 5, 6, 7, 8, 9, 10, 11, 12, 13, 14, 15, 16, 17, 18, 19, 20, 21, 22, 23, 24, 25, 26, 27, 28, 29] (by decide) rfl
    exact kk 0 _ H locs (ModelI_mk cI cB cZ h0 tz f fp ld nc L cf pf vst vk vm vd a0 a1 a2 a3 a4 a5 a6 a7 a8 a9 a10 a12 a13 a14 a15 a16 a17 a18 a19 a20 a21 a22 a23 a24 a27 a40 a45 a48 a49 a51 C Mn kd cl rg uv1 ui1 uv2 ui2 sk ci sf fr bf nf hf S ff df en E nw mf hh sp rt cu spt mv dn (-1) fk so bg ten wd tk sd nb np pli rc rR rW rX rs cm sno htp hB (Or.inl rfl) hAn hrs hcm hMP (Or.inl ⟨hv0, rfl⟩)) trivial hP hD hS
  · have hdn := gS9_36 (hmo.2.resolve_left hmo.1).1 hB.2.2.1
    refine gq_goi (wc := [(h0, .inr (9, [.ref a0, .ref a1, .ref a2, .ref a3, .ref a4, .ref a5, .ref a6, .ref a7, .ref a8, .ref a9, .ref a10, .int ld, .ref a12, .ref a13, .ref a14, .ref a15, .ref a16, .ref a17, .ref a18, .ref a19, .ref a20, .ref a21, .ref a22, .ref a23, .ref a24, .int (nI dn), .int mo, .ref a27, .int (nI tz), .int fk, .int fp, .int so, .int (nI bg), .int (nI ten), .long wd, .int (nI tk), .int sd, .int nb, .int np, .int pli, .ref a40, .int rc, .int rR, .int rW, .int rX, .ref a45, .int (nI rs), .int cm, .ref a48, .ref a49, .int (nI sno), .ref a51])), (a0, .inl (cI, 3, .inl (fun j => nI (C j)))), (a1, .inl (cI, 9, .inl (fun j => nI (Mn j)))), (a2, .inl (cI, 108, .inl kd)), (a3, .inl (cI, 108, .inl cl)), (a4, .inl (cI, 108, .inl rg)), (a5, .inl (cI, 108, .inl uv1)), (a6, .inl (cI, 108, .inl ui1)), (a7, .inl (cI, 108, .inl uv2)), (a8, .inl (cI, 108, .inl ui2)), (a9, .inl (cI, 108, .inl sk)), (a22, .inl (cI, 58, .inl nw)), (a23, .inl (cI, 58, .inl mf)), (a24, .inl (cI, 2900, .inl hh))]) (wr := [(a10, .inl (cI, 12, .inl ci)), (a12, .inl (cI, 522000, .inl sf)), (a13, .inl (cI, 9000, .inl fr)), (a14, .inl (cI, 9000, .inl bf)), (a15, .inl (cI, 9000, .inl nf)), (a16, .inl (cI, 12288, .inl hf)), (a17, .inl (cI, 3, .inl (fun j => nI (S j)))), (a18, .inl (cZ, 3, .inl ff)), (a19, .inl (cZ, 3, .inl df)), (a20, .inl (cI, 9000, .inl en)), (a21, .inl (cI, 3, .inl (fun j => nI (E j)))), (a27, .inl (cB, 4000, .inl f)), (a40, .inl (cI, 12, .inl sp)), (a45, .inl (cI, 64, .inl rt)), (a48, .inl (cI, 2, .inl cu)), (a49, .inl (cI, 16, .inl spt)), (a51, .inl (cI, 13, .inl (fun j => nI (mv j))))]) (va_runV (As := [.int z1]) (rest := []) ⟨hx, hb, hml, hown, hts⟩ (x_step9 l D cI cB cZ h0 a0 a1 a2 a3 a4 a5 a6 a7 a8 a9 a22 a23 a24 (.ref a10) (.int ld) (.ref a12) (.ref a13) (.ref a14) (.ref a15) (.ref a16) (.ref a17) (.ref a18) (.ref a19) (.ref a20) (.ref a21) (.ref a27) (.int (nI tz)) (.int fk) (.int fp) (.int so) (.int (nI bg)) (.int (nI ten)) (.long wd) (.int (nI tk)) (.int sd) (.int nb) (.int np) (.int pli) (.ref a40) (.int rc) (.int rR) (.int rW) (.int rX) (.ref a45) (.int (nI rs)) (.int cm) (.ref a48) (.ref a49) (.int (nI sno)) (.ref a51) mo C Mn kd cl rg uv1 ui1 uv2 ui2 sk dn nw mf hh z1 hB hmo.2 _) (cwV 1 hts gP_law__x_step9 rfl rfl rfl (by decide +kernel) ⟨Nat.le_of_ble_eq_true rfl, Nat.le_of_ble_eq_true rfl⟩) (gx_preV (ci := 9) (q0 := 0) hK gN.nil (gq_Pl hP) (gq_Dl hD) [0, 1, 2, 3, 4, 5, 6, 7, 8, 9, 10, 22, 23, 24] rfl rfl rfl rfl) rfl rfl hl.1 rfl (lv_room (Nat.le_of_ble_eq_true rfl)) dL_law_326 ⟨(Nat.le_trans (Nat.add_le_add_right hkb.1 _) (Nat.le_of_ble_eq_true rfl)), (Nat.le_trans (Nat.add_le_add_right hkb.2 _) (Nat.le_of_ble_eq_true rfl))⟩) hP hD hS hA [0, 1, 2, 3, 4, 5, 6, 7, 8, 9, 10, 22, 23, 24] [11, 12, 13, 14, 15, 16, 17, 18, 19, 20, 21, 25, 26, 27, 28, 29, 30] rfl rfl rfl (by decide) (fun r1 w1 H locs hp hP hD hS => ?_)
    obtain ⟨e_1, hp⟩ := hp
    obtain ⟨e_2, hp⟩ := hp
    obtain ⟨e_3, hp⟩ := hp
    obtain ⟨e_4, hp⟩ := hp
    obtain ⟨e_5, hp⟩ := hp
    obtain ⟨hq_6, hp⟩ := hp
    obtain ⟨hq_7, hp⟩ := hp
    obtain ⟨hx326_0, hp⟩ := hp
    obtain ⟨h9, hp⟩ := hp
    subst hp
    have h9 := h9.symm
    subst h9
    have hq_6 : gZ e_1 := hq_6
    have hq_7 : gMh kd Mn mo e_2 e_4 e_5 := hq_7
    have hx326_0 : (e_1 = 0 ∧ e_2 = dn ∧ e_4 = mf ∧ e_5 = hh ∧ (mo < 0 ∨ ∃ nx rz : Nat → Nat, gW9 mf nx rz ∧ ¬ gCE9 C Mn nx rz kd 0 mo z1)) ∨ (e_1 = 1 ∧ e_2 = dn + 1 ∧ ¬ mo < 0 ∧ gRow e_5 hh mf (58 * dn) 58 ∧ ∃ nx rz : Nat → Nat, gW9 mf nx rz ∧ gCE9 C Mn nx rz kd 0 mo z1 ∧ rSp9 C Mn kd cl rg uv1 ui1 uv2 ui2 sk mf nx rz mo z1 e_4) := hx326_0
    have hP : va_P D vwCl ([(a10, .inl (cI, 12, .inl ci)), (a12, .inl (cI, 522000, .inl sf)), (a13, .inl (cI, 9000, .inl fr)), (a14, .inl (cI, 9000, .inl bf)), (a15, .inl (cI, 9000, .inl nf)), (a16, .inl (cI, 12288, .inl hf)), (a17, .inl (cI, 3, .inl (fun j => nI (S j)))), (a18, .inl (cZ, 3, .inl ff)), (a19, .inl (cZ, 3, .inl df)), (a20, .inl (cI, 9000, .inl en)), (a21, .inl (cI, 3, .inl (fun j => nI (E j)))), (a27, .inl (cB, 4000, .inl f)), (a40, .inl (cI, 12, .inl sp)), (a45, .inl (cI, 64, .inl rt)), (a48, .inl (cI, 2, .inl cu)), (a49, .inl (cI, 16, .inl spt)), (a51, .inl (cI, 13, .inl (fun j => nI (mv j)))), (h0, .inr (9, [.ref a0, .ref a1, .ref a2, .ref a3, .ref a4, .ref a5, .ref a6, .ref a7, .ref a8, .ref a9, .ref a10, .int ld, .ref a12, .ref a13, .ref a14, .ref a15, .ref a16, .ref a17, .ref a18, .ref a19, .ref a20, .ref a21, .ref a22, .ref a23, .ref a24, .int (nI e_2), .int mo, .ref a27, .int (nI tz), .int fk, .int fp, .int so, .int (nI bg), .int (nI ten), .long wd, .int (nI tk), .int sd, .int nb, .int np, .int pli, .ref a40, .int rc, .int rR, .int rW, .int rX, .ref a45, .int (nI rs), .int cm, .ref a48, .ref a49, .int (nI sno), .ref a51])), (a0, .inl (cI, 3, .inl (fun j => nI (C j)))), (a1, .inl (cI, 9, .inl (fun j => nI (Mn j)))), (a2, .inl (cI, 108, .inl kd)), (a3, .inl (cI, 108, .inl cl)), (a4, .inl (cI, 108, .inl rg)), (a5, .inl (cI, 108, .inl uv1)), (a6, .inl (cI, 108, .inl ui1)), (a7, .inl (cI, 108, .inl uv2)), (a8, .inl (cI, 108, .inl ui2)), (a9, .inl (cI, 108, .inl sk)), (a22, .inl (cI, 58, .inl e_3)), (a23, .inl (cI, 58, .inl e_4)), (a24, .inl (cI, 2900, .inl e_5))] ++ w9) H := hP
    have hD : va_D A ([(a10, .inl (cI, 12, .inl ci)), (a12, .inl (cI, 522000, .inl sf)), (a13, .inl (cI, 9000, .inl fr)), (a14, .inl (cI, 9000, .inl bf)), (a15, .inl (cI, 9000, .inl nf)), (a16, .inl (cI, 12288, .inl hf)), (a17, .inl (cI, 3, .inl (fun j => nI (S j)))), (a18, .inl (cZ, 3, .inl ff)), (a19, .inl (cZ, 3, .inl df)), (a20, .inl (cI, 9000, .inl en)), (a21, .inl (cI, 3, .inl (fun j => nI (E j)))), (a27, .inl (cB, 4000, .inl f)), (a40, .inl (cI, 12, .inl sp)), (a45, .inl (cI, 64, .inl rt)), (a48, .inl (cI, 2, .inl cu)), (a49, .inl (cI, 16, .inl spt)), (a51, .inl (cI, 13, .inl (fun j => nI (mv j)))), (h0, .inr (9, [.ref a0, .ref a1, .ref a2, .ref a3, .ref a4, .ref a5, .ref a6, .ref a7, .ref a8, .ref a9, .ref a10, .int ld, .ref a12, .ref a13, .ref a14, .ref a15, .ref a16, .ref a17, .ref a18, .ref a19, .ref a20, .ref a21, .ref a22, .ref a23, .ref a24, .int (nI e_2), .int mo, .ref a27, .int (nI tz), .int fk, .int fp, .int so, .int (nI bg), .int (nI ten), .long wd, .int (nI tk), .int sd, .int nb, .int np, .int pli, .ref a40, .int rc, .int rR, .int rW, .int rX, .ref a45, .int (nI rs), .int cm, .ref a48, .ref a49, .int (nI sno), .ref a51])), (a0, .inl (cI, 3, .inl (fun j => nI (C j)))), (a1, .inl (cI, 9, .inl (fun j => nI (Mn j)))), (a2, .inl (cI, 108, .inl kd)), (a3, .inl (cI, 108, .inl cl)), (a4, .inl (cI, 108, .inl rg)), (a5, .inl (cI, 108, .inl uv1)), (a6, .inl (cI, 108, .inl ui1)), (a7, .inl (cI, 108, .inl uv2)), (a8, .inl (cI, 108, .inl ui2)), (a9, .inl (cI, 108, .inl sk)), (a22, .inl (cI, 58, .inl e_3)), (a23, .inl (cI, 58, .inl e_4)), (a24, .inl (cI, 2900, .inl e_5))] ++ w9) := hD
    refine W.widen (k := kc) (n := ns) (Nat.le_refl _) (Nat.le_refl _) ?_
    obtain ⟨hsa, hsb⟩ := st_eq hmo.1 hMH hdn hR.1.2 (rMP_i hMP) hR.1.1 hx326_0
    have hP := gq_subP (X' := [(h0, .inr (9, [.ref a0, .ref a1, .ref a2, .ref a3, .ref a4, .ref a5, .ref a6, .ref a7, .ref a8, .ref a9, .ref a10, .int ld, .ref a12, .ref a13, .ref a14, .ref a15, .ref a16, .ref a17, .ref a18, .ref a19, .ref a20, .ref a21, .ref a22, .ref a23, .ref a24, .int (nI e_2), .int mo, .ref a27, .int (nI tz), .int fk, .int fp, .int so, .int (nI bg), .int (nI ten), .long wd, .int (nI tk), .int sd, .int nb, .int np, .int pli, .ref a40, .int rc, .int rR, .int rW, .int rX, .ref a45, .int (nI rs), .int cm, .ref a48, .ref a49, .int (nI sno), .ref a51])), (a0, .inl (cI, 3, .inl (fun j => nI (C j)))), (a1, .inl (cI, 9, .inl (fun j => nI (Mn j)))), (a2, .inl (cI, 108, .inl kd)), (a3, .inl (cI, 108, .inl cl)), (a4, .inl (cI, 108, .inl rg)), (a5, .inl (cI, 108, .inl uv1)), (a6, .inl (cI, 108, .inl ui1)), (a7, .inl (cI, 108, .inl uv2)), (a8, .inl (cI, 108, .inl ui2)), (a9, .inl (cI, 108, .inl sk)), (a10, .inl (cI, 12, .inl ci)), (a12, .inl (cI, 522000, .inl sf)), (a13, .inl (cI, 9000, .inl fr)), (a14, .inl (cI, 9000, .inl bf)), (a15, .inl (cI, 9000, .inl nf)), (a16, .inl (cI, 12288, .inl hf)), (a17, .inl (cI, 3, .inl (fun j => nI (S j)))), (a18, .inl (cZ, 3, .inl ff)), (a19, .inl (cZ, 3, .inl df)), (a20, .inl (cI, 9000, .inl en)), (a21, .inl (cI, 3, .inl (fun j => nI (E j)))), (a22, .inl (cI, 58, .inl e_3)), (a23, .inl (cI, 58, .inl e_4)), (a24, .inl (cI, 2900, .inl e_5)), (a27, .inl (cB, 4000, .inl f)), (a40, .inl (cI, 12, .inl sp)), (a45, .inl (cI, 64, .inl rt)), (a48, .inl (cI, 2, .inl cu)), (a49, .inl (cI, 16, .inl spt)), (a51, .inl (cI, 13, .inl (fun j => nI (mv j))))]) hP [17, 18, 19, 20, 21, 22, 23, 24, 25, 26, 27, 0, 1, 2, 3, 4, 5, 6, 7, 8, 9, 10, 28, 29, 30, 11, 12, 13, 14, 15, 16] rfl
    have hD := gq_subD (X' := [(h0, .inr (9, [.ref a0, .ref a1, .ref a2, .ref a3, .ref a4, .ref a5, .ref a6, .ref a7, .ref a8, .ref a9, .ref a10, .int ld, .ref a12, .ref a13, .ref a14, .ref a15, .ref a16, .ref a17, .ref a18, .ref a19, .ref a20, .ref a21, .ref a22, .ref a23, .ref a24, .int (nI e_2), .int mo, .ref a27, .int (nI tz), .int fk, .int fp, .int so, .int (nI bg), .int (nI ten), .long wd, .int (nI tk), .int sd, .int nb, .int np, .int pli, .ref a40, .int rc, .int rR, .int rW, .int rX, .ref a45, .int (nI rs), .int cm, .ref a48, .ref a49, .int (nI sno), .ref a51])), (a0, .inl (cI, 3, .inl (fun j => nI (C j)))), (a1, .inl (cI, 9, .inl (fun j => nI (Mn j)))), (a2, .inl (cI, 108, .inl kd)), (a3, .inl (cI, 108, .inl cl)), (a4, .inl (cI, 108, .inl rg)), (a5, .inl (cI, 108, .inl uv1)), (a6, .inl (cI, 108, .inl ui1)), (a7, .inl (cI, 108, .inl uv2)), (a8, .inl (cI, 108, .inl ui2)), (a9, .inl (cI, 108, .inl sk)), (a10, .inl (cI, 12, .inl ci)), (a12, .inl (cI, 522000, .inl sf)), (a13, .inl (cI, 9000, .inl fr)), (a14, .inl (cI, 9000, .inl bf)), (a15, .inl (cI, 9000, .inl nf)), (a16, .inl (cI, 12288, .inl hf)), (a17, .inl (cI, 3, .inl (fun j => nI (S j)))), (a18, .inl (cZ, 3, .inl ff)), (a19, .inl (cZ, 3, .inl df)), (a20, .inl (cI, 9000, .inl en)), (a21, .inl (cI, 3, .inl (fun j => nI (E j)))), (a22, .inl (cI, 58, .inl e_3)), (a23, .inl (cI, 58, .inl e_4)), (a24, .inl (cI, 2900, .inl e_5)), (a27, .inl (cB, 4000, .inl f)), (a40, .inl (cI, 12, .inl sp)), (a45, .inl (cI, 64, .inl rt)), (a48, .inl (cI, 2, .inl cu)), (a49, .inl (cI, 16, .inl spt)), (a51, .inl (cI, 13, .inl (fun j => nI (mv j))))]) hD [17, 18, 19, 20, 21, 22, 23, 24, 25, 26, 27, 0, 1, 2, 3, 4, 5, 6, 7, 8, 9, 10, 28, 29, 30, 11, 12, 13, 14, 15, 16] (by decide) rfl
    exact kk e_1 _ H locs (ModelI_mk cI cB cZ h0 tz f fp ld nc L cf pf vst vk9 vm vd9 a0 a1 a2 a3 a4 a5 a6 a7 a8 a9 a10 a12 a13 a14 a15 a16 a17 a18 a19 a20 a21 a22 a23 a24 a27 a40 a45 a48 a49 a51 C Mn kd cl rg uv1 ui1 uv2 ui2 sk ci sf fr bf nf hf S ff df en E e_3 e_4 e_5 sp rt cu spt mv e_2 mo fk so bg ten wd tk sd nb np pli rc rR rW rX rs cm sno htp hB (Or.inr ⟨hmo.1, hq_7⟩) hAn hrs hcm hMP hsb) trivial hP hD hS
set_option maxHeartbeats 4000000 in
set_option maxRecDepth 100000 in
theorem md_undo {p : Program} {l : Launch} {e : Env} {s : State} {m : MethodId} {below : List Frame} {meth : Method} {c : Code} {b : Nat} {A : Nat → Prop} {Q : State → Prop} {D : va_G} {cI cB cZ : ClassId} {K : gKS} (G : gL p s m c b A D cI cB cZ K) {H : Heap} {locs : List Loc} {ls : Array Slot} {w8 w9 : va_W} {h0 tz kc ns tz9 : Nat} {f f9 : Nat → Int32} {fp ld fp9 ld9 : Int32} {nc nc9 : Nat} {L L9 : Nat → Nat} {cf cf9 : Nat → Int32} {pf pf9 : Nat → Int32} {vst vst9 : Int32} {vk vk9 : Nat} {vm vm9 : Int32} {vd vd9 : Nat → Int32} (hkb : kc ≤ 20000 ∧ ns ≤ 2000000) (hH : ModelI cI cB cZ h0 w8 tz f fp ld nc L cf pf vst vk vm vd) (hP : va_P D vwCl (w8 ++ w9) H) (hD : va_D A (w8 ++ w9)) (hS : va_S A s.heap H locs) (hl : ls.size = 4 ∧ True) (r8 : Int32) (hR : ((r8 = 0 ∧ vk9 = vk ∧ (vst = 0 ∨ vk = 0)) ∨ (r8 = 1 ∧ ¬ vst = 0 ∧ vk9 = vk - 1 ∧ 0 < vk)) ∧ tz = tz9 ∧ f = f9 ∧ fp = fp9 ∧ ld = ld9 ∧ nc = nc9 ∧ L = L9 ∧ cf = cf9 ∧ pf = pf9 ∧ vst = vst9 ∧ vm = vm9 ∧ vd = vd9) (kk : ∀ (r : Int32) (w8' : va_W) (H1 : Heap) (locs1 : List Loc), ModelI cI cB cZ h0 w8' tz9 f9 fp9 ld9 nc9 L9 cf9 pf9 vst9 vk9 vm9 vd9 → (True) → va_P D vwCl (w8' ++ w9) H1 → va_D A (w8' ++ w9) → va_S A s.heap H1 locs1 → W p l e room_1 s m #[Value.ref b] below meth c H1 locs1 kc ns Q (F0 m 342 ls [.int r])) : W p l e room_1 s m #[Value.ref b] below meth c H locs kc ns Q (F0 m 339 ls [.ref h0]) := by
  obtain ⟨hx, hb, hml, hown, hts, hA, hK, hN, hE⟩ := G
  unfold ModelI at hH
  obtain ⟨a0, hH⟩ := hH
  obtain ⟨a1, hH⟩ := hH
  obtain ⟨a2, hH⟩ := hH
  obtain ⟨a3, hH⟩ := hH
  obtain ⟨a4, hH⟩ := hH
  obtain ⟨a5, hH⟩ := hH
  obtain ⟨a6, hH⟩ := hH
  obtain ⟨a7, hH⟩ := hH
  obtain ⟨a8, hH⟩ := hH
  obtain ⟨a9, hH⟩ := hH
  obtain ⟨a10, hH⟩ := hH
  obtain ⟨a12, hH⟩ := hH
  obtain ⟨a13, hH⟩ := hH
  obtain ⟨a14, hH⟩ := hH
  obtain ⟨a15, hH⟩ := hH
  obtain ⟨a16, hH⟩ := hH
  obtain ⟨a17, hH⟩ := hH
  obtain ⟨a18, hH⟩ := hH
  obtain ⟨a19, hH⟩ := hH
  obtain ⟨a20, hH⟩ := hH
  obtain ⟨a21, hH⟩ := hH
  obtain ⟨a22, hH⟩ := hH
  obtain ⟨a23, hH⟩ := hH
  obtain ⟨a24, hH⟩ := hH
  obtain ⟨a27, hH⟩ := hH
  obtain ⟨a40, hH⟩ := hH
  obtain ⟨a45, hH⟩ := hH
  obtain ⟨a48, hH⟩ := hH
  obtain ⟨a49, hH⟩ := hH
  obtain ⟨a51, hH⟩ := hH
  obtain ⟨C, hH⟩ := hH
  obtain ⟨Mn, hH⟩ := hH
  obtain ⟨kd, hH⟩ := hH
  obtain ⟨cl, hH⟩ := hH
  obtain ⟨rg, hH⟩ := hH
  obtain ⟨uv1, hH⟩ := hH
  obtain ⟨ui1, hH⟩ := hH
  obtain ⟨uv2, hH⟩ := hH
  obtain ⟨ui2, hH⟩ := hH
  obtain ⟨sk, hH⟩ := hH
  obtain ⟨ci, hH⟩ := hH
  obtain ⟨sf, hH⟩ := hH
  obtain ⟨fr, hH⟩ := hH
  obtain ⟨bf, hH⟩ := hH
  obtain ⟨nf, hH⟩ := hH
  obtain ⟨hf, hH⟩ := hH
  obtain ⟨S, hH⟩ := hH
  obtain ⟨ff, hH⟩ := hH
  obtain ⟨df, hH⟩ := hH
  obtain ⟨en, hH⟩ := hH
  obtain ⟨E, hH⟩ := hH
  obtain ⟨nw, hH⟩ := hH
  obtain ⟨mf, hH⟩ := hH
  obtain ⟨hh, hH⟩ := hH
  obtain ⟨sp, hH⟩ := hH
  obtain ⟨rt, hH⟩ := hH
  obtain ⟨cu, hH⟩ := hH
  obtain ⟨spt, hH⟩ := hH
  obtain ⟨mv, hH⟩ := hH
  obtain ⟨dn, hH⟩ := hH
  obtain ⟨mo, hH⟩ := hH
  obtain ⟨fk, hH⟩ := hH
  obtain ⟨so, hH⟩ := hH
  obtain ⟨bg, hH⟩ := hH
  obtain ⟨ten, hH⟩ := hH
  obtain ⟨wd, hH⟩ := hH
  obtain ⟨tk, hH⟩ := hH
  obtain ⟨sd, hH⟩ := hH
  obtain ⟨nb, hH⟩ := hH
  obtain ⟨np, hH⟩ := hH
  obtain ⟨pli, hH⟩ := hH
  obtain ⟨rc, hH⟩ := hH
  obtain ⟨rR, hH⟩ := hH
  obtain ⟨rW, hH⟩ := hH
  obtain ⟨rX, hH⟩ := hH
  obtain ⟨rs, hH⟩ := hH
  obtain ⟨cm, hH⟩ := hH
  obtain ⟨sno, hH⟩ := hH
  obtain ⟨htp, hH⟩ := hH
  obtain ⟨hB, hH⟩ := hH
  obtain ⟨hMo, hH⟩ := hH
  obtain ⟨hAn, hH⟩ := hH
  obtain ⟨hrs, hH⟩ := hH
  obtain ⟨hcm, hH⟩ := hH
  obtain ⟨hMP, hH⟩ := hH
  obtain ⟨hMH, hH⟩ := hH
  subst hH
  obtain ⟨-, e1, e2, e3, e4, e5, e6, e7, e8, e9, e10, e11⟩ := id hR
  subst e1; subst e2; subst e3; subst e4; subst e5; subst e6; subst e7; subst e8; subst e9; subst e10; subst e11
  rcases id hMo with hm0 | hmo
  · subst hm0
    have hv0 : vst = 0 := (mq_ok hMH).elim And.left (fun h => absurd (by decide) h.2.1)
    obtain ⟨hrz, hq1, _⟩ := hR.1.resolve_right (fun h => h.2.1 hv0)
    have hq1 := hq1.symm; subst hq1
    refine gq_goi (wc := [(h0, .inr (9, [.ref a0, .ref a1, .ref a2, .ref a3, .ref a4, .ref a5, .ref a6, .ref a7, .ref a8, .ref a9, .ref a10, .int ld, .ref a12, .ref a13, .ref a14, .ref a15, .ref a16, .ref a17, .ref a18, .ref a19, .ref a20, .ref a21, .ref a22, .ref a23, .ref a24, .int (nI dn), .int (-1), .ref a27, .int (nI tz), .int fk, .int fp, .int so, .int (nI bg), .int (nI ten), .long wd, .int (nI tk), .int sd, .int nb, .int np, .int pli, .ref a40, .int rc, .int rR, .int rW, .int rX, .ref a45, .int (nI rs), .int cm, .ref a48, .ref a49, .int (nI sno), .ref a51]))]) (wr := [(a0, .inl (cI, 3, .inl (fun j => nI (C j)))), (a1, .inl (cI, 9, .inl (fun j => nI (Mn j)))), (a2, .inl (cI, 108, .inl kd)), (a3, .inl (cI, 108, .inl cl)), (a4, .inl (cI, 108, .inl rg)), (a5, .inl (cI, 108, .inl uv1)), (a6, .inl (cI, 108, .inl ui1)), (a7, .inl (cI, 108, .inl uv2)), (a8, .inl (cI, 108, .inl ui2)), (a9, .inl (cI, 108, .inl sk)), (a10, .inl (cI, 12, .inl ci)), (a12, .inl (cI, 522000, .inl sf)), (a13, .inl (cI, 9000, .inl fr)), (a14, .inl (cI, 9000, .inl bf)), (a15, .inl (cI, 9000, .inl nf)), (a16, .inl (cI, 12288, .inl hf)), (a17, .inl (cI, 3, .inl (fun j => nI (S j)))), (a18, .inl (cZ, 3, .inl ff)), (a19, .inl (cZ, 3, .inl df)), (a20, .inl (cI, 9000, .inl en)), (a21, .inl (cI, 3, .inl (fun j => nI (E j)))), (a22, .inl (cI, 58, .inl nw)), (a23, .inl (cI, 58, .inl mf)), (a24, .inl (cI, 2900, .inl hh)), (a27, .inl (cB, 4000, .inl f)), (a40, .inl (cI, 12, .inl sp)), (a45, .inl (cI, 64, .inl rt)), (a48, .inl (cI, 2, .inl cu)), (a49, .inl (cI, 16, .inl spt)), (a51, .inl (cI, 13, .inl (fun j => nI (mv j))))]) (va_runV (As := []) (rest := []) ⟨hx, hb, hml, hown, hts⟩ (c_undo9n l D cI cB cZ h0 (.ref a0) (.ref a1) (.ref a2) (.ref a3) (.ref a4) (.ref a5) (.ref a6) (.ref a7) (.ref a8) (.ref a9) (.ref a10) (.int ld) (.ref a12) (.ref a13) (.ref a14) (.ref a15) (.ref a16) (.ref a17) (.ref a18) (.ref a19) (.ref a20) (.ref a21) (.ref a22) (.ref a23) (.ref a24) (.int (nI dn)) (.ref a27) (.int (nI tz)) (.int fk) (.int fp) (.int so) (.int (nI bg)) (.int (nI ten)) (.long wd) (.int (nI tk)) (.int sd) (.int nb) (.int np) (.int pli) (.ref a40) (.int rc) (.int rR) (.int rW) (.int rX) (.ref a45) (.int (nI rs)) (.int cm) (.ref a48) (.ref a49) (.int (nI sno)) (.ref a51) _) (cwV 0 hts gP_law__c_undo9n rfl rfl rfl (by decide +kernel) ⟨Nat.le_of_ble_eq_true rfl, Nat.le_of_ble_eq_true rfl⟩) (gx_preV (ci := 9) (q0 := 0) hK gN.nil (gq_Pl hP) (gq_Dl hD) [0] rfl rfl rfl rfl) rfl rfl hl.1 rfl (lv_room (Nat.le_of_ble_eq_true rfl)) dL_law_339 ⟨(Nat.le_trans (Nat.add_le_add_right hkb.1 _) (Nat.le_of_ble_eq_true rfl)), (Nat.le_trans (Nat.add_le_add_right hkb.2 _) (Nat.le_of_ble_eq_true rfl))⟩) hP hD hS hA [0] [1, 2, 3, 4, 5, 6, 7, 8, 9, 10, 11, 12, 13, 14, 15, 16, 17, 18, 19, 20, 21, 22, 23, 24, 25, 26, 27, 28, 29, 30] rfl rfl rfl (by decide) (fun r1 w1 H locs hp hP hD hS => ?_)
    obtain ⟨h9, hp⟩ := hp
    subst hp
    have h9 := h9.symm
    subst h9
    have hP : va_P D vwCl ([(a0, .inl (cI, 3, .inl (fun j => nI (C j)))), (a1, .inl (cI, 9, .inl (fun j => nI (Mn j)))), (a2, .inl (cI, 108, .inl kd)), (a3, .inl (cI, 108, .inl cl)), (a4, .inl (cI, 108, .inl rg)), (a5, .inl (cI, 108, .inl uv1)), (a6, .inl (cI, 108, .inl ui1)), (a7, .inl (cI, 108, .inl uv2)), (a8, .inl (cI, 108, .inl ui2)), (a9, .inl (cI, 108, .inl sk)), (a10, .inl (cI, 12, .inl ci)), (a12, .inl (cI, 522000, .inl sf)), (a13, .inl (cI, 9000, .inl fr)), (a14, .inl (cI, 9000, .inl bf)), (a15, .inl (cI, 9000, .inl nf)), (a16, .inl (cI, 12288, .inl hf)), (a17, .inl (cI, 3, .inl (fun j => nI (S j)))), (a18, .inl (cZ, 3, .inl ff)), (a19, .inl (cZ, 3, .inl df)), (a20, .inl (cI, 9000, .inl en)), (a21, .inl (cI, 3, .inl (fun j => nI (E j)))), (a22, .inl (cI, 58, .inl nw)), (a23, .inl (cI, 58, .inl mf)), (a24, .inl (cI, 2900, .inl hh)), (a27, .inl (cB, 4000, .inl f)), (a40, .inl (cI, 12, .inl sp)), (a45, .inl (cI, 64, .inl rt)), (a48, .inl (cI, 2, .inl cu)), (a49, .inl (cI, 16, .inl spt)), (a51, .inl (cI, 13, .inl (fun j => nI (mv j)))), (h0, .inr (9, [.ref a0, .ref a1, .ref a2, .ref a3, .ref a4, .ref a5, .ref a6, .ref a7, .ref a8, .ref a9, .ref a10, .int ld, .ref a12, .ref a13, .ref a14, .ref a15, .ref a16, .ref a17, .ref a18, .ref a19, .ref a20, .ref a21, .ref a22, .ref a23, .ref a24, .int (nI dn), .int (-1), .ref a27, .int (nI tz), .int fk, .int fp, .int so, .int (nI bg), .int (nI ten), .long wd, .int (nI tk), .int sd, .int nb, .int np, .int pli, .ref a40, .int rc, .int rR, .int rW, .int rX, .ref a45, .int (nI rs), .int cm, .ref a48, .ref a49, .int (nI sno), .ref a51]))] ++ w9) H := hP
    have hD : va_D A ([(a0, .inl (cI, 3, .inl (fun j => nI (C j)))), (a1, .inl (cI, 9, .inl (fun j => nI (Mn j)))), (a2, .inl (cI, 108, .inl kd)), (a3, .inl (cI, 108, .inl cl)), (a4, .inl (cI, 108, .inl rg)), (a5, .inl (cI, 108, .inl uv1)), (a6, .inl (cI, 108, .inl ui1)), (a7, .inl (cI, 108, .inl uv2)), (a8, .inl (cI, 108, .inl ui2)), (a9, .inl (cI, 108, .inl sk)), (a10, .inl (cI, 12, .inl ci)), (a12, .inl (cI, 522000, .inl sf)), (a13, .inl (cI, 9000, .inl fr)), (a14, .inl (cI, 9000, .inl bf)), (a15, .inl (cI, 9000, .inl nf)), (a16, .inl (cI, 12288, .inl hf)), (a17, .inl (cI, 3, .inl (fun j => nI (S j)))), (a18, .inl (cZ, 3, .inl ff)), (a19, .inl (cZ, 3, .inl df)), (a20, .inl (cI, 9000, .inl en)), (a21, .inl (cI, 3, .inl (fun j => nI (E j)))), (a22, .inl (cI, 58, .inl nw)), (a23, .inl (cI, 58, .inl mf)), (a24, .inl (cI, 2900, .inl hh)), (a27, .inl (cB, 4000, .inl f)), (a40, .inl (cI, 12, .inl sp)), (a45, .inl (cI, 64, .inl rt)), (a48, .inl (cI, 2, .inl cu)), (a49, .inl (cI, 16, .inl spt)), (a51, .inl (cI, 13, .inl (fun j => nI (mv j)))), (h0, .inr (9, [.ref a0, .ref a1, .ref a2, .ref a3, .ref a4, .ref a5, .ref a6, .ref a7, .ref a8, .ref a9, .ref a10, .int ld, .ref a12, .ref a13, .ref a14, .ref a15, .ref a16, .ref a17, .ref a18, .ref a19, .ref a20, .ref a21, .ref a22, .ref a23, .ref a24, .int (nI dn), .int (-1), .ref a27, .int (nI tz), .int fk, .int fp, .int so, .int (nI bg), .int (nI ten), .long wd, .int (nI tk), .int sd, .int nb, .int np, .int pli, .ref a40, .int rc, .int rR, .int rW, .int rX, .ref a45, .int (nI rs), .int cm, .ref a48, .ref a49, .int (nI sno), .ref a51]))] ++ w9) := hD
    refine W.widen (k := kc) (n := ns) (Nat.le_refl _) (Nat.le_refl _) ?_
    have hP := gq_subP (X' := [(h0, .inr (9, [.ref a0, .ref a1, .ref a2, .ref a3, .ref a4, .ref a5, .ref a6, .ref a7, .ref a8, .ref a9, .ref a10, .int ld, .ref a12, .ref a13, .ref a14, .ref a15, .ref a16, .ref a17, .ref a18, .ref a19, .ref a20, .ref a21, .ref a22, .ref a23, .ref a24, .int (nI dn), .int (-1), .ref a27, .int (nI tz), .int fk, .int fp, .int so, .int (nI bg), .int (nI ten), .long wd, .int (nI tk), .int sd, .int nb, .int np, .int pli, .ref a40, .int rc, .int rR, .int rW, .int rX, .ref a45, .int (nI rs), .int cm, .ref a48, .ref a49, .int (nI sno), .ref a51])), (a0, .inl (cI, 3, .inl (fun j => nI (C j)))), (a1, .inl (cI, 9, .inl (fun j => nI (Mn j)))), (a2, .inl (cI, 108, .inl kd)), (a3, .inl (cI, 108, .inl cl)), (a4, .inl (cI, 108, .inl rg)), (a5, .inl (cI, 108, .inl uv1)), (a6, .inl (cI, 108, .inl ui1)), (a7, .inl (cI, 108, .inl uv2)), (a8, .inl (cI, 108, .inl ui2)), (a9, .inl (cI, 108, .inl sk)), (a10, .inl (cI, 12, .inl ci)), (a12, .inl (cI, 522000, .inl sf)), (a13, .inl (cI, 9000, .inl fr)), (a14, .inl (cI, 9000, .inl bf)), (a15, .inl (cI, 9000, .inl nf)), (a16, .inl (cI, 12288, .inl hf)), (a17, .inl (cI, 3, .inl (fun j => nI (S j)))), (a18, .inl (cZ, 3, .inl ff)), (a19, .inl (cZ, 3, .inl df)), (a20, .inl (cI, 9000, .inl en)), (a21, .inl (cI, 3, .inl (fun j => nI (E j)))), (a22, .inl (cI, 58, .inl nw)), (a23, .inl (cI, 58, .inl mf)), (a24, .inl (cI, 2900, .inl hh)), (a27, .inl (cB, 4000, .inl f)), (a40, .inl (cI, 12, .inl sp)), (a45, .inl (cI, 64, .inl rt)), (a48, .inl (cI, 2, .inl cu)), (a49, .inl (cI, 16, .inl spt)), (a51, .inl (cI, 13, .inl (fun j => nI (mv j))))]) hP [30, 0, 1, 2, 3, 4, 5, 6, 7, 8, 9, 10, 11, 12, 13, 14, 15, 16, 17, 18, 19, 20, 21, 22, 23, 24, 25, 26, 27, 28, 29] rfl
    have hD := gq_subD (X' := [(h0, .inr (9, [.ref a0, .ref a1, .ref a2, .ref a3, .ref a4, .ref a5, .ref a6, .ref a7, .ref a8, .ref a9, .ref a10, .int ld, .ref a12, .ref a13, .ref a14, .ref a15, .ref a16, .ref a17, .ref a18, .ref a19, .ref a20, .ref a21, .ref a22, .ref a23, .ref a24, .int (nI dn), .int (-1), .ref a27, .int (nI tz), .int fk, .int fp, .int so, .int (nI bg), .int (nI ten), .long wd, .int (nI tk), .int sd, .int nb, .int np, .int pli, .ref a40, .int rc, .int rR, .int rW, .int rX, .ref a45, .int (nI rs), .int cm, .ref a48, .ref a49, .int (nI sno), .ref a51])), (a0, .inl (cI, 3, .inl (fun j => nI (C j)))), (a1, .inl (cI, 9, .inl (fun j => nI (Mn j)))), (a2, .inl (cI, 108, .inl kd)), (a3, .inl (cI, 108, .inl cl)), (a4, .inl (cI, 108, .inl rg)), (a5, .inl (cI, 108, .inl uv1)), (a6, .inl (cI, 108, .inl ui1)), (a7, .inl (cI, 108, .inl uv2)), (a8, .inl (cI, 108, .inl ui2)), (a9, .inl (cI, 108, .inl sk)), (a10, .inl (cI, 12, .inl ci)), (a12, .inl (cI, 522000, .inl sf)), (a13, .inl (cI, 9000, .inl fr)), (a14, .inl (cI, 9000, .inl bf)), (a15, .inl (cI, 9000, .inl nf)), (a16, .inl (cI, 12288, .inl hf)), (a17, .inl (cI, 3, .inl (fun j => nI (S j)))), (a18, .inl (cZ, 3, .inl ff)), (a19, .inl (cZ, 3, .inl df)), (a20, .inl (cI, 9000, .inl en)), (a21, .inl (cI, 3, .inl (fun j => nI (E j)))), (a22, .inl (cI, 58, .inl nw)), (a23, .inl (cI, 58, .inl mf)), (a24, .inl (cI, 2900, .inl hh)), (a27, .inl (cB, 4000, .inl f)), (a40, .inl (cI, 12, .inl sp)), (a45, .inl (cI, 64, .inl rt)), (a48, .inl (cI, 2, .inl cu)), (a49, .inl (cI, 16, .inl spt)), (a51, .inl (cI, 13, .inl (fun j => nI (mv j))))]) hD [30, 0, 1, 2, 3, 4, 5, 6, 7, 8, 9, 10, 11, 12, 13, 14, 15, 16, 17, 18, 19, 20, 21, 22, 23, 24, 25, 26, 27, 28, 29] (by decide) rfl
    exact kk 0 _ H locs (ModelI_mk cI cB cZ h0 tz f fp ld nc L cf pf vst vk vm vd a0 a1 a2 a3 a4 a5 a6 a7 a8 a9 a10 a12 a13 a14 a15 a16 a17 a18 a19 a20 a21 a22 a23 a24 a27 a40 a45 a48 a49 a51 C Mn kd cl rg uv1 ui1 uv2 ui2 sk ci sf fr bf nf hf S ff df en E nw mf hh sp rt cu spt mv dn (-1) fk so bg ten wd tk sd nb np pli rc rR rW rX rs cm sno htp hB (Or.inl rfl) hAn hrs hcm hMP (Or.inl ⟨hv0, rfl⟩)) trivial hP hD hS
  · have hdn := gS9_36 (hmo.2.resolve_left hmo.1).1 hB.2.2.1
    refine gq_goi (wc := [(h0, .inr (9, [.ref a0, .ref a1, .ref a2, .ref a3, .ref a4, .ref a5, .ref a6, .ref a7, .ref a8, .ref a9, .ref a10, .int ld, .ref a12, .ref a13, .ref a14, .ref a15, .ref a16, .ref a17, .ref a18, .ref a19, .ref a20, .ref a21, .ref a22, .ref a23, .ref a24, .int (nI dn), .int mo, .ref a27, .int (nI tz), .int fk, .int fp, .int so, .int (nI bg), .int (nI ten), .long wd, .int (nI tk), .int sd, .int nb, .int np, .int pli, .ref a40, .int rc, .int rR, .int rW, .int rX, .ref a45, .int (nI rs), .int cm, .ref a48, .ref a49, .int (nI sno), .ref a51])), (a23, .inl (cI, 58, .inl mf)), (a24, .inl (cI, 2900, .inl hh))]) (wr := [(a0, .inl (cI, 3, .inl (fun j => nI (C j)))), (a1, .inl (cI, 9, .inl (fun j => nI (Mn j)))), (a2, .inl (cI, 108, .inl kd)), (a3, .inl (cI, 108, .inl cl)), (a4, .inl (cI, 108, .inl rg)), (a5, .inl (cI, 108, .inl uv1)), (a6, .inl (cI, 108, .inl ui1)), (a7, .inl (cI, 108, .inl uv2)), (a8, .inl (cI, 108, .inl ui2)), (a9, .inl (cI, 108, .inl sk)), (a10, .inl (cI, 12, .inl ci)), (a12, .inl (cI, 522000, .inl sf)), (a13, .inl (cI, 9000, .inl fr)), (a14, .inl (cI, 9000, .inl bf)), (a15, .inl (cI, 9000, .inl nf)), (a16, .inl (cI, 12288, .inl hf)), (a17, .inl (cI, 3, .inl (fun j => nI (S j)))), (a18, .inl (cZ, 3, .inl ff)), (a19, .inl (cZ, 3, .inl df)), (a20, .inl (cI, 9000, .inl en)), (a21, .inl (cI, 3, .inl (fun j => nI (E j)))), (a22, .inl (cI, 58, .inl nw)), (a27, .inl (cB, 4000, .inl f)), (a40, .inl (cI, 12, .inl sp)), (a45, .inl (cI, 64, .inl rt)), (a48, .inl (cI, 2, .inl cu)), (a49, .inl (cI, 16, .inl spt)), (a51, .inl (cI, 13, .inl (fun j => nI (mv j))))]) (va_runV (As := []) (rest := []) ⟨hx, hb, hml, hown, hts⟩ (x_undo9 l D cI cB cZ h0 a23 a24 (.ref a0) (.ref a1) (.ref a2) (.ref a3) (.ref a4) (.ref a5) (.ref a6) (.ref a7) (.ref a8) (.ref a9) (.ref a10) (.int ld) (.ref a12) (.ref a13) (.ref a14) (.ref a15) (.ref a16) (.ref a17) (.ref a18) (.ref a19) (.ref a20) (.ref a21) (.ref a22) (.ref a27) (.int (nI tz)) (.int fk) (.int fp) (.int so) (.int (nI bg)) (.int (nI ten)) (.long wd) (.int (nI tk)) (.int sd) (.int nb) (.int np) (.int pli) (.ref a40) (.int rc) (.int rR) (.int rW) (.int rX) (.ref a45) (.int (nI rs)) (.int cm) (.ref a48) (.ref a49) (.int (nI sno)) (.ref a51) mo dn mf hh (Nat.le_trans hdn (by decide)) _) (cwV 0 hts gP_law__x_undo9 rfl rfl rfl (by decide +kernel) ⟨Nat.le_of_ble_eq_true rfl, Nat.le_of_ble_eq_true rfl⟩) (gx_preV (ci := 9) (q0 := 0) hK gN.nil (gq_Pl hP) (gq_Dl hD) [0, 23, 24] rfl rfl rfl rfl) rfl rfl hl.1 rfl (lv_room (Nat.le_of_ble_eq_true rfl)) dL_law_339 ⟨(Nat.le_trans (Nat.add_le_add_right hkb.1 _) (Nat.le_of_ble_eq_true rfl)), (Nat.le_trans (Nat.add_le_add_right hkb.2 _) (Nat.le_of_ble_eq_true rfl))⟩) hP hD hS hA [0, 23, 24] [1, 2, 3, 4, 5, 6, 7, 8, 9, 10, 11, 12, 13, 14, 15, 16, 17, 18, 19, 20, 21, 22, 25, 26, 27, 28, 29, 30] rfl rfl rfl (by decide) (fun r1 w1 H locs hp hP hD hS => ?_)
    obtain ⟨e_1, hp⟩ := hp
    obtain ⟨e_2, hp⟩ := hp
    obtain ⟨e_3, hp⟩ := hp
    obtain ⟨hq_4, hp⟩ := hp
    obtain ⟨hx339_0, hp⟩ := hp
    obtain ⟨h9, hp⟩ := hp
    subst hp
    have h9 := h9.symm
    subst h9
    have hq_4 : (e_1 = 0 ∧ e_2 = dn ∧ e_3 = mf) ∨ (e_1 = 1 ∧ 0 < dn ∧ e_2 = dn - 1 ∧ ∀ j, j < 58 → e_3 j = hh ((58 * (dn - 1)) + j)) := hq_4
    have hx339_0 : (e_1 = 0 ∧ e_2 = dn ∧ e_3 = mf ∧ (mo < 0 ∨ dn = 0)) ∨ (e_1 = 1 ∧ ¬ mo < 0 ∧ 0 < dn ∧ e_2 = dn - 1 ∧ ∀ j, j < 58 → e_3 j = hh ((58 * (dn - 1)) + j)) := hx339_0
    have hP : va_P D vwCl ([(a0, .inl (cI, 3, .inl (fun j => nI (C j)))), (a1, .inl (cI, 9, .inl (fun j => nI (Mn j)))), (a2, .inl (cI, 108, .inl kd)), (a3, .inl (cI, 108, .inl cl)), (a4, .inl (cI, 108, .inl rg)), (a5, .inl (cI, 108, .inl uv1)), (a6, .inl (cI, 108, .inl ui1)), (a7, .inl (cI, 108, .inl uv2)), (a8, .inl (cI, 108, .inl ui2)), (a9, .inl (cI, 108, .inl sk)), (a10, .inl (cI, 12, .inl ci)), (a12, .inl (cI, 522000, .inl sf)), (a13, .inl (cI, 9000, .inl fr)), (a14, .inl (cI, 9000, .inl bf)), (a15, .inl (cI, 9000, .inl nf)), (a16, .inl (cI, 12288, .inl hf)), (a17, .inl (cI, 3, .inl (fun j => nI (S j)))), (a18, .inl (cZ, 3, .inl ff)), (a19, .inl (cZ, 3, .inl df)), (a20, .inl (cI, 9000, .inl en)), (a21, .inl (cI, 3, .inl (fun j => nI (E j)))), (a22, .inl (cI, 58, .inl nw)), (a27, .inl (cB, 4000, .inl f)), (a40, .inl (cI, 12, .inl sp)), (a45, .inl (cI, 64, .inl rt)), (a48, .inl (cI, 2, .inl cu)), (a49, .inl (cI, 16, .inl spt)), (a51, .inl (cI, 13, .inl (fun j => nI (mv j)))), (h0, .inr (9, [.ref a0, .ref a1, .ref a2, .ref a3, .ref a4, .ref a5, .ref a6, .ref a7, .ref a8, .ref a9, .ref a10, .int ld, .ref a12, .ref a13, .ref a14, .ref a15, .ref a16, .ref a17, .ref a18, .ref a19, .ref a20, .ref a21, .ref a22, .ref a23, .ref a24, .int (nI e_2), .int mo, .ref a27, .int (nI tz), .int fk, .int fp, .int so, .int (nI bg), .int (nI ten), .long wd, .int (nI tk), .int sd, .int nb, .int np, .int pli, .ref a40, .int rc, .int rR, .int rW, .int rX, .ref a45, .int (nI rs), .int cm, .ref a48, .ref a49, .int (nI sno), .ref a51])), (a23, .inl (cI, 58, .inl e_3)), (a24, .inl (cI, 2900, .inl hh))] ++ w9) H := hP
    have hD : va_D A ([(a0, .inl (cI, 3, .inl (fun j => nI (C j)))), (a1, .inl (cI, 9, .inl (fun j => nI (Mn j)))), (a2, .inl (cI, 108, .inl kd)), (a3, .inl (cI, 108, .inl cl)), (a4, .inl (cI, 108, .inl rg)), (a5, .inl (cI, 108, .inl uv1)), (a6, .inl (cI, 108, .inl ui1)), (a7, .inl (cI, 108, .inl uv2)), (a8, .inl (cI, 108, .inl ui2)), (a9, .inl (cI, 108, .inl sk)), (a10, .inl (cI, 12, .inl ci)), (a12, .inl (cI, 522000, .inl sf)), (a13, .inl (cI, 9000, .inl fr)), (a14, .inl (cI, 9000, .inl bf)), (a15, .inl (cI, 9000, .inl nf)), (a16, .inl (cI, 12288, .inl hf)), (a17, .inl (cI, 3, .inl (fun j => nI (S j)))), (a18, .inl (cZ, 3, .inl ff)), (a19, .inl (cZ, 3, .inl df)), (a20, .inl (cI, 9000, .inl en)), (a21, .inl (cI, 3, .inl (fun j => nI (E j)))), (a22, .inl (cI, 58, .inl nw)), (a27, .inl (cB, 4000, .inl f)), (a40, .inl (cI, 12, .inl sp)), (a45, .inl (cI, 64, .inl rt)), (a48, .inl (cI, 2, .inl cu)), (a49, .inl (cI, 16, .inl spt)), (a51, .inl (cI, 13, .inl (fun j => nI (mv j)))), (h0, .inr (9, [.ref a0, .ref a1, .ref a2, .ref a3, .ref a4, .ref a5, .ref a6, .ref a7, .ref a8, .ref a9, .ref a10, .int ld, .ref a12, .ref a13, .ref a14, .ref a15, .ref a16, .ref a17, .ref a18, .ref a19, .ref a20, .ref a21, .ref a22, .ref a23, .ref a24, .int (nI e_2), .int mo, .ref a27, .int (nI tz), .int fk, .int fp, .int so, .int (nI bg), .int (nI ten), .long wd, .int (nI tk), .int sd, .int nb, .int np, .int pli, .ref a40, .int rc, .int rR, .int rW, .int rX, .ref a45, .int (nI rs), .int cm, .ref a48, .ref a49, .int (nI sno), .ref a51])), (a23, .inl (cI, 58, .inl e_3)), (a24, .inl (cI, 2900, .inl hh))] ++ w9) := hD
    refine W.widen (k := kc) (n := ns) (Nat.le_refl _) (Nat.le_refl _) ?_
    obtain ⟨hsa, hsb⟩ := ud_eq hmo.1 hMH hR.1 hx339_0
    have hP := gq_subP (X' := [(h0, .inr (9, [.ref a0, .ref a1, .ref a2, .ref a3, .ref a4, .ref a5, .ref a6, .ref a7, .ref a8, .ref a9, .ref a10, .int ld, .ref a12, .ref a13, .ref a14, .ref a15, .ref a16, .ref a17, .ref a18, .ref a19, .ref a20, .ref a21, .ref a22, .ref a23, .ref a24, .int (nI e_2), .int mo, .ref a27, .int (nI tz), .int fk, .int fp, .int so, .int (nI bg), .int (nI ten), .long wd, .int (nI tk), .int sd, .int nb, .int np, .int pli, .ref a40, .int rc, .int rR, .int rW, .int rX, .ref a45, .int (nI rs), .int cm, .ref a48, .ref a49, .int (nI sno), .ref a51])), (a0, .inl (cI, 3, .inl (fun j => nI (C j)))), (a1, .inl (cI, 9, .inl (fun j => nI (Mn j)))), (a2, .inl (cI, 108, .inl kd)), (a3, .inl (cI, 108, .inl cl)), (a4, .inl (cI, 108, .inl rg)), (a5, .inl (cI, 108, .inl uv1)), (a6, .inl (cI, 108, .inl ui1)), (a7, .inl (cI, 108, .inl uv2)), (a8, .inl (cI, 108, .inl ui2)), (a9, .inl (cI, 108, .inl sk)), (a10, .inl (cI, 12, .inl ci)), (a12, .inl (cI, 522000, .inl sf)), (a13, .inl (cI, 9000, .inl fr)), (a14, .inl (cI, 9000, .inl bf)), (a15, .inl (cI, 9000, .inl nf)), (a16, .inl (cI, 12288, .inl hf)), (a17, .inl (cI, 3, .inl (fun j => nI (S j)))), (a18, .inl (cZ, 3, .inl ff)), (a19, .inl (cZ, 3, .inl df)), (a20, .inl (cI, 9000, .inl en)), (a21, .inl (cI, 3, .inl (fun j => nI (E j)))), (a22, .inl (cI, 58, .inl nw)), (a23, .inl (cI, 58, .inl e_3)), (a24, .inl (cI, 2900, .inl hh)), (a27, .inl (cB, 4000, .inl f)), (a40, .inl (cI, 12, .inl sp)), (a45, .inl (cI, 64, .inl rt)), (a48, .inl (cI, 2, .inl cu)), (a49, .inl (cI, 16, .inl spt)), (a51, .inl (cI, 13, .inl (fun j => nI (mv j))))]) hP [28, 0, 1, 2, 3, 4, 5, 6, 7, 8, 9, 10, 11, 12, 13, 14, 15, 16, 17, 18, 19, 20, 21, 29, 30, 22, 23, 24, 25, 26, 27] rfl
    have hD := gq_subD (X' := [(h0, .inr (9, [.ref a0, .ref a1, .ref a2, .ref a3, .ref a4, .ref a5, .ref a6, .ref a7, .ref a8, .ref a9, .ref a10, .int ld, .ref a12, .ref a13, .ref a14, .ref a15, .ref a16, .ref a17, .ref a18, .ref a19, .ref a20, .ref a21, .ref a22, .ref a23, .ref a24, .int (nI e_2), .int mo, .ref a27, .int (nI tz), .int fk, .int fp, .int so, .int (nI bg), .int (nI ten), .long wd, .int (nI tk), .int sd, .int nb, .int np, .int pli, .ref a40, .int rc, .int rR, .int rW, .int rX, .ref a45, .int (nI rs), .int cm, .ref a48, .ref a49, .int (nI sno), .ref a51])), (a0, .inl (cI, 3, .inl (fun j => nI (C j)))), (a1, .inl (cI, 9, .inl (fun j => nI (Mn j)))), (a2, .inl (cI, 108, .inl kd)), (a3, .inl (cI, 108, .inl cl)), (a4, .inl (cI, 108, .inl rg)), (a5, .inl (cI, 108, .inl uv1)), (a6, .inl (cI, 108, .inl ui1)), (a7, .inl (cI, 108, .inl uv2)), (a8, .inl (cI, 108, .inl ui2)), (a9, .inl (cI, 108, .inl sk)), (a10, .inl (cI, 12, .inl ci)), (a12, .inl (cI, 522000, .inl sf)), (a13, .inl (cI, 9000, .inl fr)), (a14, .inl (cI, 9000, .inl bf)), (a15, .inl (cI, 9000, .inl nf)), (a16, .inl (cI, 12288, .inl hf)), (a17, .inl (cI, 3, .inl (fun j => nI (S j)))), (a18, .inl (cZ, 3, .inl ff)), (a19, .inl (cZ, 3, .inl df)), (a20, .inl (cI, 9000, .inl en)), (a21, .inl (cI, 3, .inl (fun j => nI (E j)))), (a22, .inl (cI, 58, .inl nw)), (a23, .inl (cI, 58, .inl e_3)), (a24, .inl (cI, 2900, .inl hh)), (a27, .inl (cB, 4000, .inl f)), (a40, .inl (cI, 12, .inl sp)), (a45, .inl (cI, 64, .inl rt)), (a48, .inl (cI, 2, .inl cu)), (a49, .inl (cI, 16, .inl spt)), (a51, .inl (cI, 13, .inl (fun j => nI (mv j))))]) hD [28, 0, 1, 2, 3, 4, 5, 6, 7, 8, 9, 10, 11, 12, 13, 14, 15, 16, 17, 18, 19, 20, 21, 29, 30, 22, 23, 24, 25, 26, 27] (by decide) rfl
    exact kk e_1 _ H locs (ModelI_mk cI cB cZ h0 tz f fp ld nc L cf pf vst vk9 vm vd a0 a1 a2 a3 a4 a5 a6 a7 a8 a9 a10 a12 a13 a14 a15 a16 a17 a18 a19 a20 a21 a22 a23 a24 a27 a40 a45 a48 a49 a51 C Mn kd cl rg uv1 ui1 uv2 ui2 sk ci sf fr bf nf hf S ff df en E nw e_3 hh sp rt cu spt mv e_2 mo fk so bg ten wd tk sd nb np pli rc rR rW rX rs cm sno htp hB (gMh_u hmo hq_4) hAn hrs hcm hMP hsb) trivial hP hD hS
set_option maxHeartbeats 4000000 in
set_option maxRecDepth 100000 in
theorem md_register {p : Program} {l : Launch} {e : Env} {s : State} {m : MethodId} {below : List Frame} {meth : Method} {c : Code} {b : Nat} {A : Nat → Prop} {Q : State → Prop} {D : va_G} {cI cB cZ : ClassId} {K : gKS} (G : gL p s m c b A D cI cB cZ K) {H : Heap} {locs : List Loc} {ls : Array Slot} {w8 w9 : va_W} {h0 tz kc ns tz9 : Nat} {f f9 : Nat → Int32} {fp ld fp9 ld9 : Int32} {nc nc9 : Nat} {L L9 : Nat → Nat} {cf cf9 : Nat → Int32} {pf pf9 : Nat → Int32} {vst vst9 : Int32} {vk vk9 : Nat} {vm vm9 : Int32} {vd vd9 : Nat → Int32} (hkb : kc ≤ 20000 ∧ ns ≤ 2000000) (hH : ModelI cI cB cZ h0 w8 tz f fp ld nc L cf pf vst vk vm vd) (hP : va_P D vwCl (w8 ++ w9) H) (hD : va_D A (w8 ++ w9)) (hS : va_S A s.heap H locs) (hl : ls.size = 4 ∧ True) (z1 : Int32) (z2 : Int32) (r8 : Int32) (hR : rQ (fun a b c => ¬ vst = 0 ∧ ¬ ld = 0 ∧ a < nc ∧ b < 3 ∧ c = 0) (fun a b _ => (gRun pf cf vm vd vk) ((a * 3) + b)) 0 z1 z2 (nI 0) r8 ∧ tz = tz9 ∧ f = f9 ∧ fp = fp9 ∧ ld = ld9 ∧ nc = nc9 ∧ L = L9 ∧ cf = cf9 ∧ pf = pf9 ∧ vst = vst9 ∧ vk = vk9 ∧ vm = vm9 ∧ vd = vd9) (kk : ∀ (r : Int32) (w8' : va_W) (H1 : Heap) (locs1 : List Loc), ModelI cI cB cZ h0 w8' tz9 f9 fp9 ld9 nc9 L9 cf9 pf9 vst9 vk9 vm9 vd9 → (r8 = r) → va_P D vwCl (w8' ++ w9) H1 → va_D A (w8' ++ w9) → va_S A s.heap H1 locs1 → W p l e room_1 s m #[Value.ref b] below meth c H1 locs1 kc ns Q (F0 m 374 ls [.int r, .int r8])) : W p l e room_1 s m #[Value.ref b] below meth c H locs kc ns Q (F0 m 371 ls [.int z2, .int z1, .ref h0, .int r8]) := by
  obtain ⟨hx, hb, hml, hown, hts, hA, hK, hN, hE⟩ := G
  unfold ModelI at hH
  obtain ⟨a0, hH⟩ := hH
  obtain ⟨a1, hH⟩ := hH
  obtain ⟨a2, hH⟩ := hH
  obtain ⟨a3, hH⟩ := hH
  obtain ⟨a4, hH⟩ := hH
  obtain ⟨a5, hH⟩ := hH
  obtain ⟨a6, hH⟩ := hH
  obtain ⟨a7, hH⟩ := hH
  obtain ⟨a8, hH⟩ := hH
  obtain ⟨a9, hH⟩ := hH
  obtain ⟨a10, hH⟩ := hH
  obtain ⟨a12, hH⟩ := hH
  obtain ⟨a13, hH⟩ := hH
  obtain ⟨a14, hH⟩ := hH
  obtain ⟨a15, hH⟩ := hH
  obtain ⟨a16, hH⟩ := hH
  obtain ⟨a17, hH⟩ := hH
  obtain ⟨a18, hH⟩ := hH
  obtain ⟨a19, hH⟩ := hH
  obtain ⟨a20, hH⟩ := hH
  obtain ⟨a21, hH⟩ := hH
  obtain ⟨a22, hH⟩ := hH
  obtain ⟨a23, hH⟩ := hH
  obtain ⟨a24, hH⟩ := hH
  obtain ⟨a27, hH⟩ := hH
  obtain ⟨a40, hH⟩ := hH
  obtain ⟨a45, hH⟩ := hH
  obtain ⟨a48, hH⟩ := hH
  obtain ⟨a49, hH⟩ := hH
  obtain ⟨a51, hH⟩ := hH
  obtain ⟨C, hH⟩ := hH
  obtain ⟨Mn, hH⟩ := hH
  obtain ⟨kd, hH⟩ := hH
  obtain ⟨cl, hH⟩ := hH
  obtain ⟨rg, hH⟩ := hH
  obtain ⟨uv1, hH⟩ := hH
  obtain ⟨ui1, hH⟩ := hH
  obtain ⟨uv2, hH⟩ := hH
  obtain ⟨ui2, hH⟩ := hH
  obtain ⟨sk, hH⟩ := hH
  obtain ⟨ci, hH⟩ := hH
  obtain ⟨sf, hH⟩ := hH
  obtain ⟨fr, hH⟩ := hH
  obtain ⟨bf, hH⟩ := hH
  obtain ⟨nf, hH⟩ := hH
  obtain ⟨hf, hH⟩ := hH
  obtain ⟨S, hH⟩ := hH
  obtain ⟨ff, hH⟩ := hH
  obtain ⟨df, hH⟩ := hH
  obtain ⟨en, hH⟩ := hH
  obtain ⟨E, hH⟩ := hH
  obtain ⟨nw, hH⟩ := hH
  obtain ⟨mf, hH⟩ := hH
  obtain ⟨hh, hH⟩ := hH
  obtain ⟨sp, hH⟩ := hH
  obtain ⟨rt, hH⟩ := hH
  obtain ⟨cu, hH⟩ := hH
  obtain ⟨spt, hH⟩ := hH
  obtain ⟨mv, hH⟩ := hH
  obtain ⟨dn, hH⟩ := hH
  obtain ⟨mo, hH⟩ := hH
  obtain ⟨fk, hH⟩ := hH
  obtain ⟨so, hH⟩ := hH
  obtain ⟨bg, hH⟩ := hH
  obtain ⟨ten, hH⟩ := hH
  obtain ⟨wd, hH⟩ := hH
  obtain ⟨tk, hH⟩ := hH
  obtain ⟨sd, hH⟩ := hH
  obtain ⟨nb, hH⟩ := hH
  obtain ⟨np, hH⟩ := hH
  obtain ⟨pli, hH⟩ := hH
  obtain ⟨rc, hH⟩ := hH
  obtain ⟨rR, hH⟩ := hH
  obtain ⟨rW, hH⟩ := hH
  obtain ⟨rX, hH⟩ := hH
  obtain ⟨rs, hH⟩ := hH
  obtain ⟨cm, hH⟩ := hH
  obtain ⟨sno, hH⟩ := hH
  obtain ⟨htp, hH⟩ := hH
  obtain ⟨hB, hH⟩ := hH
  obtain ⟨hMo, hH⟩ := hH
  obtain ⟨hAn, hH⟩ := hH
  obtain ⟨hrs, hH⟩ := hH
  obtain ⟨hcm, hH⟩ := hH
  obtain ⟨hMP, hH⟩ := hH
  obtain ⟨hMH, hH⟩ := hH
  subst hH
  obtain ⟨-, e1, e2, e3, e4, e5, e6, e7, e8, e9, e10, e11, e12⟩ := id hR
  subst e1; subst e2; subst e3; subst e4; subst e5; subst e6; subst e7; subst e8; subst e9; subst e10; subst e11; subst e12
  refine gq_goi (wc := [(h0, .inr (9, [.ref a0, .ref a1, .ref a2, .ref a3, .ref a4, .ref a5, .ref a6, .ref a7, .ref a8, .ref a9, .ref a10, .int ld, .ref a12, .ref a13, .ref a14, .ref a15, .ref a16, .ref a17, .ref a18, .ref a19, .ref a20, .ref a21, .ref a22, .ref a23, .ref a24, .int (nI dn), .int mo, .ref a27, .int (nI tz), .int fk, .int fp, .int so, .int (nI bg), .int (nI ten), .long wd, .int (nI tk), .int sd, .int nb, .int np, .int pli, .ref a40, .int rc, .int rR, .int rW, .int rX, .ref a45, .int (nI rs), .int cm, .ref a48, .ref a49, .int (nI sno), .ref a51])), (a0, .inl (cI, 3, .inl (fun j => nI (C j)))), (a23, .inl (cI, 58, .inl mf))]) (wr := [(a1, .inl (cI, 9, .inl (fun j => nI (Mn j)))), (a2, .inl (cI, 108, .inl kd)), (a3, .inl (cI, 108, .inl cl)), (a4, .inl (cI, 108, .inl rg)), (a5, .inl (cI, 108, .inl uv1)), (a6, .inl (cI, 108, .inl ui1)), (a7, .inl (cI, 108, .inl uv2)), (a8, .inl (cI, 108, .inl ui2)), (a9, .inl (cI, 108, .inl sk)), (a10, .inl (cI, 12, .inl ci)), (a12, .inl (cI, 522000, .inl sf)), (a13, .inl (cI, 9000, .inl fr)), (a14, .inl (cI, 9000, .inl bf)), (a15, .inl (cI, 9000, .inl nf)), (a16, .inl (cI, 12288, .inl hf)), (a17, .inl (cI, 3, .inl (fun j => nI (S j)))), (a18, .inl (cZ, 3, .inl ff)), (a19, .inl (cZ, 3, .inl df)), (a20, .inl (cI, 9000, .inl en)), (a21, .inl (cI, 3, .inl (fun j => nI (E j)))), (a22, .inl (cI, 58, .inl nw)), (a24, .inl (cI, 2900, .inl hh)), (a27, .inl (cB, 4000, .inl f)), (a40, .inl (cI, 12, .inl sp)), (a45, .inl (cI, 64, .inl rt)), (a48, .inl (cI, 2, .inl cu)), (a49, .inl (cI, 16, .inl spt)), (a51, .inl (cI, 13, .inl (fun j => nI (mv j))))]) (va_runV (As := [.int z1, .int z2]) (rest := [.int r8]) ⟨hx, hb, hml, hown, hts⟩ (x_registerQ9 l D cI cB cZ h0 a0 a23 (.ref a1) (.ref a2) (.ref a3) (.ref a4) (.ref a5) (.ref a6) (.ref a7) (.ref a8) (.ref a9) (.ref a10) (.int ld) (.ref a12) (.ref a13) (.ref a14) (.ref a15) (.ref a16) (.ref a17) (.ref a18) (.ref a19) (.ref a20) (.ref a21) (.ref a22) (.ref a24) (.int (nI dn)) (.ref a27) (.int (nI tz)) (.int fk) (.int fp) (.int so) (.int (nI bg)) (.int (nI ten)) (.long wd) (.int (nI tk)) (.int sd) (.int nb) (.int np) (.int pli) (.ref a40) (.int rc) (.int rR) (.int rW) (.int rX) (.ref a45) (.int (nI rs)) (.int cm) (.ref a48) (.ref a49) (.int (nI sno)) (.ref a51) mo C mf z1 z2 hB.1 _) (cwV 2 hts gP_law__x_registerQ9 rfl rfl rfl (by decide +kernel) ⟨Nat.le_of_ble_eq_true rfl, Nat.le_of_ble_eq_true rfl⟩) (gx_preV (ci := 9) (q0 := 0) hK gN.nil (gq_Pl hP) (gq_Dl hD) [0, 1, 23] rfl rfl rfl rfl) rfl rfl hl.1 rfl (lv_room (Nat.le_of_ble_eq_true rfl)) dL_law_371 ⟨(Nat.le_trans (Nat.add_le_add_right hkb.1 _) (Nat.le_of_ble_eq_true rfl)), (Nat.le_trans (Nat.add_le_add_right hkb.2 _) (Nat.le_of_ble_eq_true rfl))⟩) hP hD hS hA [0, 1, 23] [2, 3, 4, 5, 6, 7, 8, 9, 10, 11, 12, 13, 14, 15, 16, 17, 18, 19, 20, 21, 22, 24, 25, 26, 27, 28, 29, 30] rfl rfl rfl (by decide) (fun r1 w1 H locs hp hP hD hS => ?_)
  obtain ⟨e_1, hp⟩ := hp
  obtain ⟨hx371_0, hp⟩ := hp
  obtain ⟨h9, hp⟩ := hp
  subst hp
  have h9 := h9.symm
  subst h9
  have hx371_0 : rQ (fun a b c => ¬ mo < 0 ∧ a < C 0 ∧ b < 3 ∧ c = 0) (fun a b _ => mf ((3 + (3 * a)) + b)) 0 z1 z2 (nI 0) e_1 := hx371_0
  have hP : va_P D vwCl ([(a1, .inl (cI, 9, .inl (fun j => nI (Mn j)))), (a2, .inl (cI, 108, .inl kd)), (a3, .inl (cI, 108, .inl cl)), (a4, .inl (cI, 108, .inl rg)), (a5, .inl (cI, 108, .inl uv1)), (a6, .inl (cI, 108, .inl ui1)), (a7, .inl (cI, 108, .inl uv2)), (a8, .inl (cI, 108, .inl ui2)), (a9, .inl (cI, 108, .inl sk)), (a10, .inl (cI, 12, .inl ci)), (a12, .inl (cI, 522000, .inl sf)), (a13, .inl (cI, 9000, .inl fr)), (a14, .inl (cI, 9000, .inl bf)), (a15, .inl (cI, 9000, .inl nf)), (a16, .inl (cI, 12288, .inl hf)), (a17, .inl (cI, 3, .inl (fun j => nI (S j)))), (a18, .inl (cZ, 3, .inl ff)), (a19, .inl (cZ, 3, .inl df)), (a20, .inl (cI, 9000, .inl en)), (a21, .inl (cI, 3, .inl (fun j => nI (E j)))), (a22, .inl (cI, 58, .inl nw)), (a24, .inl (cI, 2900, .inl hh)), (a27, .inl (cB, 4000, .inl f)), (a40, .inl (cI, 12, .inl sp)), (a45, .inl (cI, 64, .inl rt)), (a48, .inl (cI, 2, .inl cu)), (a49, .inl (cI, 16, .inl spt)), (a51, .inl (cI, 13, .inl (fun j => nI (mv j)))), (h0, .inr (9, [.ref a0, .ref a1, .ref a2, .ref a3, .ref a4, .ref a5, .ref a6, .ref a7, .ref a8, .ref a9, .ref a10, .int ld, .ref a12, .ref a13, .ref a14, .ref a15, .ref a16, .ref a17, .ref a18, .ref a19, .ref a20, .ref a21, .ref a22, .ref a23, .ref a24, .int (nI dn), .int mo, .ref a27, .int (nI tz), .int fk, .int fp, .int so, .int (nI bg), .int (nI ten), .long wd, .int (nI tk), .int sd, .int nb, .int np, .int pli, .ref a40, .int rc, .int rR, .int rW, .int rX, .ref a45, .int (nI rs), .int cm, .ref a48, .ref a49, .int (nI sno), .ref a51])), (a0, .inl (cI, 3, .inl (fun j => nI (C j)))), (a23, .inl (cI, 58, .inl mf))] ++ w9) H := hP
  have hD : va_D A ([(a1, .inl (cI, 9, .inl (fun j => nI (Mn j)))), (a2, .inl (cI, 108, .inl kd)), (a3, .inl (cI, 108, .inl cl)), (a4, .inl (cI, 108, .inl rg)), (a5, .inl (cI, 108, .inl uv1)), (a6, .inl (cI, 108, .inl ui1)), (a7, .inl (cI, 108, .inl uv2)), (a8, .inl (cI, 108, .inl ui2)), (a9, .inl (cI, 108, .inl sk)), (a10, .inl (cI, 12, .inl ci)), (a12, .inl (cI, 522000, .inl sf)), (a13, .inl (cI, 9000, .inl fr)), (a14, .inl (cI, 9000, .inl bf)), (a15, .inl (cI, 9000, .inl nf)), (a16, .inl (cI, 12288, .inl hf)), (a17, .inl (cI, 3, .inl (fun j => nI (S j)))), (a18, .inl (cZ, 3, .inl ff)), (a19, .inl (cZ, 3, .inl df)), (a20, .inl (cI, 9000, .inl en)), (a21, .inl (cI, 3, .inl (fun j => nI (E j)))), (a22, .inl (cI, 58, .inl nw)), (a24, .inl (cI, 2900, .inl hh)), (a27, .inl (cB, 4000, .inl f)), (a40, .inl (cI, 12, .inl sp)), (a45, .inl (cI, 64, .inl rt)), (a48, .inl (cI, 2, .inl cu)), (a49, .inl (cI, 16, .inl spt)), (a51, .inl (cI, 13, .inl (fun j => nI (mv j)))), (h0, .inr (9, [.ref a0, .ref a1, .ref a2, .ref a3, .ref a4, .ref a5, .ref a6, .ref a7, .ref a8, .ref a9, .ref a10, .int ld, .ref a12, .ref a13, .ref a14, .ref a15, .ref a16, .ref a17, .ref a18, .ref a19, .ref a20, .ref a21, .ref a22, .ref a23, .ref a24, .int (nI dn), .int mo, .ref a27, .int (nI tz), .int fk, .int fp, .int so, .int (nI bg), .int (nI ten), .long wd, .int (nI tk), .int sd, .int nb, .int np, .int pli, .ref a40, .int rc, .int rR, .int rW, .int rX, .ref a45, .int (nI rs), .int cm, .ref a48, .ref a49, .int (nI sno), .ref a51])), (a0, .inl (cI, 3, .inl (fun j => nI (C j)))), (a23, .inl (cI, 58, .inl mf))] ++ w9) := hD
  refine W.widen (k := kc) (n := ns) (Nat.le_refl _) (Nat.le_refl _) ?_
  have hP := gq_subP (X' := [(h0, .inr (9, [.ref a0, .ref a1, .ref a2, .ref a3, .ref a4, .ref a5, .ref a6, .ref a7, .ref a8, .ref a9, .ref a10, .int ld, .ref a12, .ref a13, .ref a14, .ref a15, .ref a16, .ref a17, .ref a18, .ref a19, .ref a20, .ref a21, .ref a22, .ref a23, .ref a24, .int (nI dn), .int mo, .ref a27, .int (nI tz), .int fk, .int fp, .int so, .int (nI bg), .int (nI ten), .long wd, .int (nI tk), .int sd, .int nb, .int np, .int pli, .ref a40, .int rc, .int rR, .int rW, .int rX, .ref a45, .int (nI rs), .int cm, .ref a48, .ref a49, .int (nI sno), .ref a51])), (a0, .inl (cI, 3, .inl (fun j => nI (C j)))), (a1, .inl (cI, 9, .inl (fun j => nI (Mn j)))), (a2, .inl (cI, 108, .inl kd)), (a3, .inl (cI, 108, .inl cl)), (a4, .inl (cI, 108, .inl rg)), (a5, .inl (cI, 108, .inl uv1)), (a6, .inl (cI, 108, .inl ui1)), (a7, .inl (cI, 108, .inl uv2)), (a8, .inl (cI, 108, .inl ui2)), (a9, .inl (cI, 108, .inl sk)), (a10, .inl (cI, 12, .inl ci)), (a12, .inl (cI, 522000, .inl sf)), (a13, .inl (cI, 9000, .inl fr)), (a14, .inl (cI, 9000, .inl bf)), (a15, .inl (cI, 9000, .inl nf)), (a16, .inl (cI, 12288, .inl hf)), (a17, .inl (cI, 3, .inl (fun j => nI (S j)))), (a18, .inl (cZ, 3, .inl ff)), (a19, .inl (cZ, 3, .inl df)), (a20, .inl (cI, 9000, .inl en)), (a21, .inl (cI, 3, .inl (fun j => nI (E j)))), (a22, .inl (cI, 58, .inl nw)), (a23, .inl (cI, 58, .inl mf)), (a24, .inl (cI, 2900, .inl hh)), (a27, .inl (cB, 4000, .inl f)), (a40, .inl (cI, 12, .inl sp)), (a45, .inl (cI, 64, .inl rt)), (a48, .inl (cI, 2, .inl cu)), (a49, .inl (cI, 16, .inl spt)), (a51, .inl (cI, 13, .inl (fun j => nI (mv j))))]) hP [28, 29, 0, 1, 2, 3, 4, 5, 6, 7, 8, 9, 10, 11, 12, 13, 14, 15, 16, 17, 18, 19, 20, 30, 21, 22, 23, 24, 25, 26, 27] rfl
  have hD := gq_subD (X' := [(h0, .inr (9, [.ref a0, .ref a1, .ref a2, .ref a3, .ref a4, .ref a5, .ref a6, .ref a7, .ref a8, .ref a9, .ref a10, .int ld, .ref a12, .ref a13, .ref a14, .ref a15, .ref a16, .ref a17, .ref a18, .ref a19, .ref a20, .ref a21, .ref a22, .ref a23, .ref a24, .int (nI dn), .int mo, .ref a27, .int (nI tz), .int fk, .int fp, .int so, .int (nI bg), .int (nI ten), .long wd, .int (nI tk), .int sd, .int nb, .int np, .int pli, .ref a40, .int rc, .int rR, .int rW, .int rX, .ref a45, .int (nI rs), .int cm, .ref a48, .ref a49, .int (nI sno), .ref a51])), (a0, .inl (cI, 3, .inl (fun j => nI (C j)))), (a1, .inl (cI, 9, .inl (fun j => nI (Mn j)))), (a2, .inl (cI, 108, .inl kd)), (a3, .inl (cI, 108, .inl cl)), (a4, .inl (cI, 108, .inl rg)), (a5, .inl (cI, 108, .inl uv1)), (a6, .inl (cI, 108, .inl ui1)), (a7, .inl (cI, 108, .inl uv2)), (a8, .inl (cI, 108, .inl ui2)), (a9, .inl (cI, 108, .inl sk)), (a10, .inl (cI, 12, .inl ci)), (a12, .inl (cI, 522000, .inl sf)), (a13, .inl (cI, 9000, .inl fr)), (a14, .inl (cI, 9000, .inl bf)), (a15, .inl (cI, 9000, .inl nf)), (a16, .inl (cI, 12288, .inl hf)), (a17, .inl (cI, 3, .inl (fun j => nI (S j)))), (a18, .inl (cZ, 3, .inl ff)), (a19, .inl (cZ, 3, .inl df)), (a20, .inl (cI, 9000, .inl en)), (a21, .inl (cI, 3, .inl (fun j => nI (E j)))), (a22, .inl (cI, 58, .inl nw)), (a23, .inl (cI, 58, .inl mf)), (a24, .inl (cI, 2900, .inl hh)), (a27, .inl (cB, 4000, .inl f)), (a40, .inl (cI, 12, .inl sp)), (a45, .inl (cI, 64, .inl rt)), (a48, .inl (cI, 2, .inl cu)), (a49, .inl (cI, 16, .inl spt)), (a51, .inl (cI, 13, .inl (fun j => nI (mv j))))]) hD [28, 29, 0, 1, 2, 3, 4, 5, 6, 7, 8, 9, 10, 11, 12, 13, 14, 15, 16, 17, 18, 19, 20, 30, 21, 22, 23, 24, 25, 26, 27] (by decide) rfl
  exact kk e_1 _ H locs (ModelI_mk cI cB cZ h0 tz f fp ld nc L cf pf vst vk vm vd a0 a1 a2 a3 a4 a5 a6 a7 a8 a9 a10 a12 a13 a14 a15 a16 a17 a18 a19 a20 a21 a22 a23 a24 a27 a40 a45 a48 a49 a51 C Mn kd cl rg uv1 ui1 uv2 ui2 sk ci sf fr bf nf hf S ff df en E nw mf hh sp rt cu spt mv dn mo fk so bg ten wd tk sd nb np pli rc rR rW rX rs cm sno htp hB hMo hAn hrs hcm hMP hMH) (rg_eq hMH (hB.1 0 (by decide)) (fun h => (hMP h).1) hR.1 hx371_0) hP hD hS
set_option maxHeartbeats 4000000 in
set_option maxRecDepth 100000 in
theorem md_memory {p : Program} {l : Launch} {e : Env} {s : State} {m : MethodId} {below : List Frame} {meth : Method} {c : Code} {b : Nat} {A : Nat → Prop} {Q : State → Prop} {D : va_G} {cI cB cZ : ClassId} {K : gKS} (G : gL p s m c b A D cI cB cZ K) {H : Heap} {locs : List Loc} {ls : Array Slot} {w8 w9 : va_W} {h0 tz kc ns tz9 : Nat} {f f9 : Nat → Int32} {fp ld fp9 ld9 : Int32} {nc nc9 : Nat} {L L9 : Nat → Nat} {cf cf9 : Nat → Int32} {pf pf9 : Nat → Int32} {vst vst9 : Int32} {vk vk9 : Nat} {vm vm9 : Int32} {vd vd9 : Nat → Int32} (hkb : kc ≤ 20000 ∧ ns ≤ 2000000) (hH : ModelI cI cB cZ h0 w8 tz f fp ld nc L cf pf vst vk vm vd) (hP : va_P D vwCl (w8 ++ w9) H) (hD : va_D A (w8 ++ w9)) (hS : va_S A s.heap H locs) (hl : ls.size = 4 ∧ True) (z1 : Int32) (r8 : Int32) (hR : rQ (fun a b c => ¬ vst = 0 ∧ a < 4 ∧ b = 0 ∧ c = 0) (fun a _ _ => (gRun pf cf vm vd vk) (9 + a)) 0 z1 (nI 0) (nI 0) r8 ∧ tz = tz9 ∧ f = f9 ∧ fp = fp9 ∧ ld = ld9 ∧ nc = nc9 ∧ L = L9 ∧ cf = cf9 ∧ pf = pf9 ∧ vst = vst9 ∧ vk = vk9 ∧ vm = vm9 ∧ vd = vd9) (kk : ∀ (r : Int32) (w8' : va_W) (H1 : Heap) (locs1 : List Loc), ModelI cI cB cZ h0 w8' tz9 f9 fp9 ld9 nc9 L9 cf9 pf9 vst9 vk9 vm9 vd9 → (True) → va_P D vwCl (w8' ++ w9) H1 → va_D A (w8' ++ w9) → va_S A s.heap H1 locs1 → W p l e room_1 s m #[Value.ref b] below meth c H1 locs1 kc ns Q (F0 m 398 ls [.int r])) : W p l e room_1 s m #[Value.ref b] below meth c H locs kc ns Q (F0 m 395 ls [.int z1, .ref h0]) := by
  obtain ⟨hx, hb, hml, hown, hts, hA, hK, hN, hE⟩ := G
  unfold ModelI at hH
  obtain ⟨a0, hH⟩ := hH
  obtain ⟨a1, hH⟩ := hH
  obtain ⟨a2, hH⟩ := hH
  obtain ⟨a3, hH⟩ := hH
  obtain ⟨a4, hH⟩ := hH
  obtain ⟨a5, hH⟩ := hH
  obtain ⟨a6, hH⟩ := hH
  obtain ⟨a7, hH⟩ := hH
  obtain ⟨a8, hH⟩ := hH
  obtain ⟨a9, hH⟩ := hH
  obtain ⟨a10, hH⟩ := hH
  obtain ⟨a12, hH⟩ := hH
  obtain ⟨a13, hH⟩ := hH
  obtain ⟨a14, hH⟩ := hH
  obtain ⟨a15, hH⟩ := hH
  obtain ⟨a16, hH⟩ := hH
  obtain ⟨a17, hH⟩ := hH
  obtain ⟨a18, hH⟩ := hH
  obtain ⟨a19, hH⟩ := hH
  obtain ⟨a20, hH⟩ := hH
  obtain ⟨a21, hH⟩ := hH
  obtain ⟨a22, hH⟩ := hH
  obtain ⟨a23, hH⟩ := hH
  obtain ⟨a24, hH⟩ := hH
  obtain ⟨a27, hH⟩ := hH
  obtain ⟨a40, hH⟩ := hH
  obtain ⟨a45, hH⟩ := hH
  obtain ⟨a48, hH⟩ := hH
  obtain ⟨a49, hH⟩ := hH
  obtain ⟨a51, hH⟩ := hH
  obtain ⟨C, hH⟩ := hH
  obtain ⟨Mn, hH⟩ := hH
  obtain ⟨kd, hH⟩ := hH
  obtain ⟨cl, hH⟩ := hH
  obtain ⟨rg, hH⟩ := hH
  obtain ⟨uv1, hH⟩ := hH
  obtain ⟨ui1, hH⟩ := hH
  obtain ⟨uv2, hH⟩ := hH
  obtain ⟨ui2, hH⟩ := hH
  obtain ⟨sk, hH⟩ := hH
  obtain ⟨ci, hH⟩ := hH
  obtain ⟨sf, hH⟩ := hH
  obtain ⟨fr, hH⟩ := hH
  obtain ⟨bf, hH⟩ := hH
  obtain ⟨nf, hH⟩ := hH
  obtain ⟨hf, hH⟩ := hH
  obtain ⟨S, hH⟩ := hH
  obtain ⟨ff, hH⟩ := hH
  obtain ⟨df, hH⟩ := hH
  obtain ⟨en, hH⟩ := hH
  obtain ⟨E, hH⟩ := hH
  obtain ⟨nw, hH⟩ := hH
  obtain ⟨mf, hH⟩ := hH
  obtain ⟨hh, hH⟩ := hH
  obtain ⟨sp, hH⟩ := hH
  obtain ⟨rt, hH⟩ := hH
  obtain ⟨cu, hH⟩ := hH
  obtain ⟨spt, hH⟩ := hH
  obtain ⟨mv, hH⟩ := hH
  obtain ⟨dn, hH⟩ := hH
  obtain ⟨mo, hH⟩ := hH
  obtain ⟨fk, hH⟩ := hH
  obtain ⟨so, hH⟩ := hH
  obtain ⟨bg, hH⟩ := hH
  obtain ⟨ten, hH⟩ := hH
  obtain ⟨wd, hH⟩ := hH
  obtain ⟨tk, hH⟩ := hH
  obtain ⟨sd, hH⟩ := hH
  obtain ⟨nb, hH⟩ := hH
  obtain ⟨np, hH⟩ := hH
  obtain ⟨pli, hH⟩ := hH
  obtain ⟨rc, hH⟩ := hH
  obtain ⟨rR, hH⟩ := hH
  obtain ⟨rW, hH⟩ := hH
  obtain ⟨rX, hH⟩ := hH
  obtain ⟨rs, hH⟩ := hH
  obtain ⟨cm, hH⟩ := hH
  obtain ⟨sno, hH⟩ := hH
  obtain ⟨htp, hH⟩ := hH
  obtain ⟨hB, hH⟩ := hH
  obtain ⟨hMo, hH⟩ := hH
  obtain ⟨hAn, hH⟩ := hH
  obtain ⟨hrs, hH⟩ := hH
  obtain ⟨hcm, hH⟩ := hH
  obtain ⟨hMP, hH⟩ := hH
  obtain ⟨hMH, hH⟩ := hH
  subst hH
  obtain ⟨-, e1, e2, e3, e4, e5, e6, e7, e8, e9, e10, e11, e12⟩ := id hR
  subst e1; subst e2; subst e3; subst e4; subst e5; subst e6; subst e7; subst e8; subst e9; subst e10; subst e11; subst e12
  refine gq_goi (wc := [(h0, .inr (9, [.ref a0, .ref a1, .ref a2, .ref a3, .ref a4, .ref a5, .ref a6, .ref a7, .ref a8, .ref a9, .ref a10, .int ld, .ref a12, .ref a13, .ref a14, .ref a15, .ref a16, .ref a17, .ref a18, .ref a19, .ref a20, .ref a21, .ref a22, .ref a23, .ref a24, .int (nI dn), .int mo, .ref a27, .int (nI tz), .int fk, .int fp, .int so, .int (nI bg), .int (nI ten), .long wd, .int (nI tk), .int sd, .int nb, .int np, .int pli, .ref a40, .int rc, .int rR, .int rW, .int rX, .ref a45, .int (nI rs), .int cm, .ref a48, .ref a49, .int (nI sno), .ref a51])), (a23, .inl (cI, 58, .inl mf))]) (wr := [(a0, .inl (cI, 3, .inl (fun j => nI (C j)))), (a1, .inl (cI, 9, .inl (fun j => nI (Mn j)))), (a2, .inl (cI, 108, .inl kd)), (a3, .inl (cI, 108, .inl cl)), (a4, .inl (cI, 108, .inl rg)), (a5, .inl (cI, 108, .inl uv1)), (a6, .inl (cI, 108, .inl ui1)), (a7, .inl (cI, 108, .inl uv2)), (a8, .inl (cI, 108, .inl ui2)), (a9, .inl (cI, 108, .inl sk)), (a10, .inl (cI, 12, .inl ci)), (a12, .inl (cI, 522000, .inl sf)), (a13, .inl (cI, 9000, .inl fr)), (a14, .inl (cI, 9000, .inl bf)), (a15, .inl (cI, 9000, .inl nf)), (a16, .inl (cI, 12288, .inl hf)), (a17, .inl (cI, 3, .inl (fun j => nI (S j)))), (a18, .inl (cZ, 3, .inl ff)), (a19, .inl (cZ, 3, .inl df)), (a20, .inl (cI, 9000, .inl en)), (a21, .inl (cI, 3, .inl (fun j => nI (E j)))), (a22, .inl (cI, 58, .inl nw)), (a24, .inl (cI, 2900, .inl hh)), (a27, .inl (cB, 4000, .inl f)), (a40, .inl (cI, 12, .inl sp)), (a45, .inl (cI, 64, .inl rt)), (a48, .inl (cI, 2, .inl cu)), (a49, .inl (cI, 16, .inl spt)), (a51, .inl (cI, 13, .inl (fun j => nI (mv j))))]) (va_runV (As := [.int z1]) (rest := []) ⟨hx, hb, hml, hown, hts⟩ (x_memory9 l D cI cB cZ h0 a23 (.ref a0) (.ref a1) (.ref a2) (.ref a3) (.ref a4) (.ref a5) (.ref a6) (.ref a7) (.ref a8) (.ref a9) (.ref a10) (.int ld) (.ref a12) (.ref a13) (.ref a14) (.ref a15) (.ref a16) (.ref a17) (.ref a18) (.ref a19) (.ref a20) (.ref a21) (.ref a22) (.ref a24) (.int (nI dn)) (.ref a27) (.int (nI tz)) (.int fk) (.int fp) (.int so) (.int (nI bg)) (.int (nI ten)) (.long wd) (.int (nI tk)) (.int sd) (.int nb) (.int np) (.int pli) (.ref a40) (.int rc) (.int rR) (.int rW) (.int rX) (.ref a45) (.int (nI rs)) (.int cm) (.ref a48) (.ref a49) (.int (nI sno)) (.ref a51) mo mf z1 _) (cwV 1 hts gP_law__x_memory9 rfl rfl rfl (by decide +kernel) ⟨Nat.le_of_ble_eq_true rfl, Nat.le_of_ble_eq_true rfl⟩) (gx_preV (ci := 9) (q0 := 0) hK gN.nil (gq_Pl hP) (gq_Dl hD) [0, 23] rfl rfl rfl rfl) rfl rfl hl.1 rfl (lv_room (Nat.le_of_ble_eq_true rfl)) dL_law_395 ⟨(Nat.le_trans (Nat.add_le_add_right hkb.1 _) (Nat.le_of_ble_eq_true rfl)), (Nat.le_trans (Nat.add_le_add_right hkb.2 _) (Nat.le_of_ble_eq_true rfl))⟩) hP hD hS hA [0, 23] [1, 2, 3, 4, 5, 6, 7, 8, 9, 10, 11, 12, 13, 14, 15, 16, 17, 18, 19, 20, 21, 22, 24, 25, 26, 27, 28, 29, 30] rfl rfl rfl (by decide) (fun r1 w1 H locs hp hP hD hS => ?_)
  obtain ⟨e_1, hp⟩ := hp
  obtain ⟨hx395_0, hp⟩ := hp
  obtain ⟨h9, hp⟩ := hp
  subst hp
  have h9 := h9.symm
  subst h9
  have hx395_0 : rQ (fun a b c => ¬ mo < 0 ∧ a < 4 ∧ b = 0 ∧ c = 0) (fun a _ _ => mf (12 + a)) 0 z1 (nI 0) (nI 0) e_1 := hx395_0
  have hP : va_P D vwCl ([(a0, .inl (cI, 3, .inl (fun j => nI (C j)))), (a1, .inl (cI, 9, .inl (fun j => nI (Mn j)))), (a2, .inl (cI, 108, .inl kd)), (a3, .inl (cI, 108, .inl cl)), (a4, .inl (cI, 108, .inl rg)), (a5, .inl (cI, 108, .inl uv1)), (a6, .inl (cI, 108, .inl ui1)), (a7, .inl (cI, 108, .inl uv2)), (a8, .inl (cI, 108, .inl ui2)), (a9, .inl (cI, 108, .inl sk)), (a10, .inl (cI, 12, .inl ci)), (a12, .inl (cI, 522000, .inl sf)), (a13, .inl (cI, 9000, .inl fr)), (a14, .inl (cI, 9000, .inl bf)), (a15, .inl (cI, 9000, .inl nf)), (a16, .inl (cI, 12288, .inl hf)), (a17, .inl (cI, 3, .inl (fun j => nI (S j)))), (a18, .inl (cZ, 3, .inl ff)), (a19, .inl (cZ, 3, .inl df)), (a20, .inl (cI, 9000, .inl en)), (a21, .inl (cI, 3, .inl (fun j => nI (E j)))), (a22, .inl (cI, 58, .inl nw)), (a24, .inl (cI, 2900, .inl hh)), (a27, .inl (cB, 4000, .inl f)), (a40, .inl (cI, 12, .inl sp)), (a45, .inl (cI, 64, .inl rt)), (a48, .inl (cI, 2, .inl cu)), (a49, .inl (cI, 16, .inl spt)), (a51, .inl (cI, 13, .inl (fun j => nI (mv j)))), (h0, .inr (9, [.ref a0, .ref a1, .ref a2, .ref a3, .ref a4, .ref a5, .ref a6, .ref a7, .ref a8, .ref a9, .ref a10, .int ld, .ref a12, .ref a13, .ref a14, .ref a15, .ref a16, .ref a17, .ref a18, .ref a19, .ref a20, .ref a21, .ref a22, .ref a23, .ref a24, .int (nI dn), .int mo, .ref a27, .int (nI tz), .int fk, .int fp, .int so, .int (nI bg), .int (nI ten), .long wd, .int (nI tk), .int sd, .int nb, .int np, .int pli, .ref a40, .int rc, .int rR, .int rW, .int rX, .ref a45, .int (nI rs), .int cm, .ref a48, .ref a49, .int (nI sno), .ref a51])), (a23, .inl (cI, 58, .inl mf))] ++ w9) H := hP
  have hD : va_D A ([(a0, .inl (cI, 3, .inl (fun j => nI (C j)))), (a1, .inl (cI, 9, .inl (fun j => nI (Mn j)))), (a2, .inl (cI, 108, .inl kd)), (a3, .inl (cI, 108, .inl cl)), (a4, .inl (cI, 108, .inl rg)), (a5, .inl (cI, 108, .inl uv1)), (a6, .inl (cI, 108, .inl ui1)), (a7, .inl (cI, 108, .inl uv2)), (a8, .inl (cI, 108, .inl ui2)), (a9, .inl (cI, 108, .inl sk)), (a10, .inl (cI, 12, .inl ci)), (a12, .inl (cI, 522000, .inl sf)), (a13, .inl (cI, 9000, .inl fr)), (a14, .inl (cI, 9000, .inl bf)), (a15, .inl (cI, 9000, .inl nf)), (a16, .inl (cI, 12288, .inl hf)), (a17, .inl (cI, 3, .inl (fun j => nI (S j)))), (a18, .inl (cZ, 3, .inl ff)), (a19, .inl (cZ, 3, .inl df)), (a20, .inl (cI, 9000, .inl en)), (a21, .inl (cI, 3, .inl (fun j => nI (E j)))), (a22, .inl (cI, 58, .inl nw)), (a24, .inl (cI, 2900, .inl hh)), (a27, .inl (cB, 4000, .inl f)), (a40, .inl (cI, 12, .inl sp)), (a45, .inl (cI, 64, .inl rt)), (a48, .inl (cI, 2, .inl cu)), (a49, .inl (cI, 16, .inl spt)), (a51, .inl (cI, 13, .inl (fun j => nI (mv j)))), (h0, .inr (9, [.ref a0, .ref a1, .ref a2, .ref a3, .ref a4, .ref a5, .ref a6, .ref a7, .ref a8, .ref a9, .ref a10, .int ld, .ref a12, .ref a13, .ref a14, .ref a15, .ref a16, .ref a17, .ref a18, .ref a19, .ref a20, .ref a21, .ref a22, .ref a23, .ref a24, .int (nI dn), .int mo, .ref a27, .int (nI tz), .int fk, .int fp, .int so, .int (nI bg), .int (nI ten), .long wd, .int (nI tk), .int sd, .int nb, .int np, .int pli, .ref a40, .int rc, .int rR, .int rW, .int rX, .ref a45, .int (nI rs), .int cm, .ref a48, .ref a49, .int (nI sno), .ref a51])), (a23, .inl (cI, 58, .inl mf))] ++ w9) := hD
  refine W.widen (k := kc) (n := ns) (Nat.le_refl _) (Nat.le_refl _) ?_
  have hP := gq_subP (X' := [(h0, .inr (9, [.ref a0, .ref a1, .ref a2, .ref a3, .ref a4, .ref a5, .ref a6, .ref a7, .ref a8, .ref a9, .ref a10, .int ld, .ref a12, .ref a13, .ref a14, .ref a15, .ref a16, .ref a17, .ref a18, .ref a19, .ref a20, .ref a21, .ref a22, .ref a23, .ref a24, .int (nI dn), .int mo, .ref a27, .int (nI tz), .int fk, .int fp, .int so, .int (nI bg), .int (nI ten), .long wd, .int (nI tk), .int sd, .int nb, .int np, .int pli, .ref a40, .int rc, .int rR, .int rW, .int rX, .ref a45, .int (nI rs), .int cm, .ref a48, .ref a49, .int (nI sno), .ref a51])), (a0, .inl (cI, 3, .inl (fun j => nI (C j)))), (a1, .inl (cI, 9, .inl (fun j => nI (Mn j)))), (a2, .inl (cI, 108, .inl kd)), (a3, .inl (cI, 108, .inl cl)), (a4, .inl (cI, 108, .inl rg)), (a5, .inl (cI, 108, .inl uv1)), (a6, .inl (cI, 108, .inl ui1)), (a7, .inl (cI, 108, .inl uv2)), (a8, .inl (cI, 108, .inl ui2)), (a9, .inl (cI, 108, .inl sk)), (a10, .inl (cI, 12, .inl ci)), (a12, .inl (cI, 522000, .inl sf)), (a13, .inl (cI, 9000, .inl fr)), (a14, .inl (cI, 9000, .inl bf)), (a15, .inl (cI, 9000, .inl nf)), (a16, .inl (cI, 12288, .inl hf)), (a17, .inl (cI, 3, .inl (fun j => nI (S j)))), (a18, .inl (cZ, 3, .inl ff)), (a19, .inl (cZ, 3, .inl df)), (a20, .inl (cI, 9000, .inl en)), (a21, .inl (cI, 3, .inl (fun j => nI (E j)))), (a22, .inl (cI, 58, .inl nw)), (a23, .inl (cI, 58, .inl mf)), (a24, .inl (cI, 2900, .inl hh)), (a27, .inl (cB, 4000, .inl f)), (a40, .inl (cI, 12, .inl sp)), (a45, .inl (cI, 64, .inl rt)), (a48, .inl (cI, 2, .inl cu)), (a49, .inl (cI, 16, .inl spt)), (a51, .inl (cI, 13, .inl (fun j => nI (mv j))))]) hP [29, 0, 1, 2, 3, 4, 5, 6, 7, 8, 9, 10, 11, 12, 13, 14, 15, 16, 17, 18, 19, 20, 21, 30, 22, 23, 24, 25, 26, 27, 28] rfl
  have hD := gq_subD (X' := [(h0, .inr (9, [.ref a0, .ref a1, .ref a2, .ref a3, .ref a4, .ref a5, .ref a6, .ref a7, .ref a8, .ref a9, .ref a10, .int ld, .ref a12, .ref a13, .ref a14, .ref a15, .ref a16, .ref a17, .ref a18, .ref a19, .ref a20, .ref a21, .ref a22, .ref a23, .ref a24, .int (nI dn), .int mo, .ref a27, .int (nI tz), .int fk, .int fp, .int so, .int (nI bg), .int (nI ten), .long wd, .int (nI tk), .int sd, .int nb, .int np, .int pli, .ref a40, .int rc, .int rR, .int rW, .int rX, .ref a45, .int (nI rs), .int cm, .ref a48, .ref a49, .int (nI sno), .ref a51])), (a0, .inl (cI, 3, .inl (fun j => nI (C j)))), (a1, .inl (cI, 9, .inl (fun j => nI (Mn j)))), (a2, .inl (cI, 108, .inl kd)), (a3, .inl (cI, 108, .inl cl)), (a4, .inl (cI, 108, .inl rg)), (a5, .inl (cI, 108, .inl uv1)), (a6, .inl (cI, 108, .inl ui1)), (a7, .inl (cI, 108, .inl uv2)), (a8, .inl (cI, 108, .inl ui2)), (a9, .inl (cI, 108, .inl sk)), (a10, .inl (cI, 12, .inl ci)), (a12, .inl (cI, 522000, .inl sf)), (a13, .inl (cI, 9000, .inl fr)), (a14, .inl (cI, 9000, .inl bf)), (a15, .inl (cI, 9000, .inl nf)), (a16, .inl (cI, 12288, .inl hf)), (a17, .inl (cI, 3, .inl (fun j => nI (S j)))), (a18, .inl (cZ, 3, .inl ff)), (a19, .inl (cZ, 3, .inl df)), (a20, .inl (cI, 9000, .inl en)), (a21, .inl (cI, 3, .inl (fun j => nI (E j)))), (a22, .inl (cI, 58, .inl nw)), (a23, .inl (cI, 58, .inl mf)), (a24, .inl (cI, 2900, .inl hh)), (a27, .inl (cB, 4000, .inl f)), (a40, .inl (cI, 12, .inl sp)), (a45, .inl (cI, 64, .inl rt)), (a48, .inl (cI, 2, .inl cu)), (a49, .inl (cI, 16, .inl spt)), (a51, .inl (cI, 13, .inl (fun j => nI (mv j))))]) hD [29, 0, 1, 2, 3, 4, 5, 6, 7, 8, 9, 10, 11, 12, 13, 14, 15, 16, 17, 18, 19, 20, 21, 30, 22, 23, 24, 25, 26, 27, 28] (by decide) rfl
  exact kk e_1 _ H locs (ModelI_mk cI cB cZ h0 tz f fp ld nc L cf pf vst vk vm vd a0 a1 a2 a3 a4 a5 a6 a7 a8 a9 a10 a12 a13 a14 a15 a16 a17 a18 a19 a20 a21 a22 a23 a24 a27 a40 a45 a48 a49 a51 C Mn kd cl rg uv1 ui1 uv2 ui2 sk ci sf fr bf nf hf S ff df en E nw mf hh sp rt cu spt mv dn mo fk so bg ten wd tk sd nb np pli rc rR rW rX rs cm sno htp hB hMo hAn hrs hcm hMP hMH) trivial hP hD hS
set_option maxHeartbeats 4000000 in
set_option maxRecDepth 100000 in
theorem md_next {p : Program} {l : Launch} {e : Env} {s : State} {m : MethodId} {below : List Frame} {meth : Method} {c : Code} {b : Nat} {A : Nat → Prop} {Q : State → Prop} {D : va_G} {cI cB cZ : ClassId} {K : gKS} (G : gL p s m c b A D cI cB cZ K) {H : Heap} {locs : List Loc} {ls : Array Slot} {w8 w9 : va_W} {h0 tz kc ns tz9 : Nat} {f f9 : Nat → Int32} {fp ld fp9 ld9 : Int32} {nc nc9 : Nat} {L L9 : Nat → Nat} {cf cf9 : Nat → Int32} {pf pf9 : Nat → Int32} {vst vst9 : Int32} {vk vk9 : Nat} {vm vm9 : Int32} {vd vd9 : Nat → Int32} (hkb : kc ≤ 20000 ∧ ns ≤ 2000000) (hH : ModelI cI cB cZ h0 w8 tz f fp ld nc L cf pf vst vk vm vd) (hP : va_P D vwCl (w8 ++ w9) H) (hD : va_D A (w8 ++ w9)) (hS : va_S A s.heap H locs) (hl : ls.size = 4 ∧ True) (z1 : Int32) (r8 : Int32) (hR : rQ (fun a b c => ¬ vst = 0 ∧ ¬ ld = 0 ∧ a < nc ∧ b = 0 ∧ c = 0) (fun a _ _ => nI (gNx ((gRun pf cf vm vd vk) (13 + a)))) (-1) z1 (nI 0) (nI 0) r8 ∧ tz = tz9 ∧ f = f9 ∧ fp = fp9 ∧ ld = ld9 ∧ nc = nc9 ∧ L = L9 ∧ cf = cf9 ∧ pf = pf9 ∧ vst = vst9 ∧ vk = vk9 ∧ vm = vm9 ∧ vd = vd9) (kk : ∀ (r : Int32) (w8' : va_W) (H1 : Heap) (locs1 : List Loc), ModelI cI cB cZ h0 w8' tz9 f9 fp9 ld9 nc9 L9 cf9 pf9 vst9 vk9 vm9 vd9 → (True) → va_P D vwCl (w8' ++ w9) H1 → va_D A (w8' ++ w9) → va_S A s.heap H1 locs1 → W p l e room_1 s m #[Value.ref b] below meth c H1 locs1 kc ns Q (F0 m 421 ls [.int r])) : W p l e room_1 s m #[Value.ref b] below meth c H locs kc ns Q (F0 m 418 ls [.int z1, .ref h0]) := by
  obtain ⟨hx, hb, hml, hown, hts, hA, hK, hN, hE⟩ := G
  unfold ModelI at hH
  obtain ⟨a0, hH⟩ := hH
  obtain ⟨a1, hH⟩ := hH
  obtain ⟨a2, hH⟩ := hH
  obtain ⟨a3, hH⟩ := hH
  obtain ⟨a4, hH⟩ := hH
  obtain ⟨a5, hH⟩ := hH
  obtain ⟨a6, hH⟩ := hH
  obtain ⟨a7, hH⟩ := hH
  obtain ⟨a8, hH⟩ := hH
  obtain ⟨a9, hH⟩ := hH
  obtain ⟨a10, hH⟩ := hH
  obtain ⟨a12, hH⟩ := hH
  obtain ⟨a13, hH⟩ := hH
  obtain ⟨a14, hH⟩ := hH
  obtain ⟨a15, hH⟩ := hH
  obtain ⟨a16, hH⟩ := hH
  obtain ⟨a17, hH⟩ := hH
  obtain ⟨a18, hH⟩ := hH
  obtain ⟨a19, hH⟩ := hH
  obtain ⟨a20, hH⟩ := hH
  obtain ⟨a21, hH⟩ := hH
  obtain ⟨a22, hH⟩ := hH
  obtain ⟨a23, hH⟩ := hH
  obtain ⟨a24, hH⟩ := hH
  obtain ⟨a27, hH⟩ := hH
  obtain ⟨a40, hH⟩ := hH
  obtain ⟨a45, hH⟩ := hH
  obtain ⟨a48, hH⟩ := hH
  obtain ⟨a49, hH⟩ := hH
  obtain ⟨a51, hH⟩ := hH
  obtain ⟨C, hH⟩ := hH
  obtain ⟨Mn, hH⟩ := hH
  obtain ⟨kd, hH⟩ := hH
  obtain ⟨cl, hH⟩ := hH
  obtain ⟨rg, hH⟩ := hH
  obtain ⟨uv1, hH⟩ := hH
  obtain ⟨ui1, hH⟩ := hH
  obtain ⟨uv2, hH⟩ := hH
  obtain ⟨ui2, hH⟩ := hH
  obtain ⟨sk, hH⟩ := hH
  obtain ⟨ci, hH⟩ := hH
  obtain ⟨sf, hH⟩ := hH
  obtain ⟨fr, hH⟩ := hH
  obtain ⟨bf, hH⟩ := hH
  obtain ⟨nf, hH⟩ := hH
  obtain ⟨hf, hH⟩ := hH
  obtain ⟨S, hH⟩ := hH
  obtain ⟨ff, hH⟩ := hH
  obtain ⟨df, hH⟩ := hH
  obtain ⟨en, hH⟩ := hH
  obtain ⟨E, hH⟩ := hH
  obtain ⟨nw, hH⟩ := hH
  obtain ⟨mf, hH⟩ := hH
  obtain ⟨hh, hH⟩ := hH
  obtain ⟨sp, hH⟩ := hH
  obtain ⟨rt, hH⟩ := hH
  obtain ⟨cu, hH⟩ := hH
  obtain ⟨spt, hH⟩ := hH
  obtain ⟨mv, hH⟩ := hH
  obtain ⟨dn, hH⟩ := hH
  obtain ⟨mo, hH⟩ := hH
  obtain ⟨fk, hH⟩ := hH
  obtain ⟨so, hH⟩ := hH
  obtain ⟨bg, hH⟩ := hH
  obtain ⟨ten, hH⟩ := hH
  obtain ⟨wd, hH⟩ := hH
  obtain ⟨tk, hH⟩ := hH
  obtain ⟨sd, hH⟩ := hH
  obtain ⟨nb, hH⟩ := hH
  obtain ⟨np, hH⟩ := hH
  obtain ⟨pli, hH⟩ := hH
  obtain ⟨rc, hH⟩ := hH
  obtain ⟨rR, hH⟩ := hH
  obtain ⟨rW, hH⟩ := hH
  obtain ⟨rX, hH⟩ := hH
  obtain ⟨rs, hH⟩ := hH
  obtain ⟨cm, hH⟩ := hH
  obtain ⟨sno, hH⟩ := hH
  obtain ⟨htp, hH⟩ := hH
  obtain ⟨hB, hH⟩ := hH
  obtain ⟨hMo, hH⟩ := hH
  obtain ⟨hAn, hH⟩ := hH
  obtain ⟨hrs, hH⟩ := hH
  obtain ⟨hcm, hH⟩ := hH
  obtain ⟨hMP, hH⟩ := hH
  obtain ⟨hMH, hH⟩ := hH
  subst hH
  obtain ⟨-, e1, e2, e3, e4, e5, e6, e7, e8, e9, e10, e11, e12⟩ := id hR
  subst e1; subst e2; subst e3; subst e4; subst e5; subst e6; subst e7; subst e8; subst e9; subst e10; subst e11; subst e12
  refine gq_goi (wc := [(h0, .inr (9, [.ref a0, .ref a1, .ref a2, .ref a3, .ref a4, .ref a5, .ref a6, .ref a7, .ref a8, .ref a9, .ref a10, .int ld, .ref a12, .ref a13, .ref a14, .ref a15, .ref a16, .ref a17, .ref a18, .ref a19, .ref a20, .ref a21, .ref a22, .ref a23, .ref a24, .int (nI dn), .int mo, .ref a27, .int (nI tz), .int fk, .int fp, .int so, .int (nI bg), .int (nI ten), .long wd, .int (nI tk), .int sd, .int nb, .int np, .int pli, .ref a40, .int rc, .int rR, .int rW, .int rX, .ref a45, .int (nI rs), .int cm, .ref a48, .ref a49, .int (nI sno), .ref a51])), (a0, .inl (cI, 3, .inl (fun j => nI (C j)))), (a23, .inl (cI, 58, .inl mf))]) (wr := [(a1, .inl (cI, 9, .inl (fun j => nI (Mn j)))), (a2, .inl (cI, 108, .inl kd)), (a3, .inl (cI, 108, .inl cl)), (a4, .inl (cI, 108, .inl rg)), (a5, .inl (cI, 108, .inl uv1)), (a6, .inl (cI, 108, .inl ui1)), (a7, .inl (cI, 108, .inl uv2)), (a8, .inl (cI, 108, .inl ui2)), (a9, .inl (cI, 108, .inl sk)), (a10, .inl (cI, 12, .inl ci)), (a12, .inl (cI, 522000, .inl sf)), (a13, .inl (cI, 9000, .inl fr)), (a14, .inl (cI, 9000, .inl bf)), (a15, .inl (cI, 9000, .inl nf)), (a16, .inl (cI, 12288, .inl hf)), (a17, .inl (cI, 3, .inl (fun j => nI (S j)))), (a18, .inl (cZ, 3, .inl ff)), (a19, .inl (cZ, 3, .inl df)), (a20, .inl (cI, 9000, .inl en)), (a21, .inl (cI, 3, .inl (fun j => nI (E j)))), (a22, .inl (cI, 58, .inl nw)), (a24, .inl (cI, 2900, .inl hh)), (a27, .inl (cB, 4000, .inl f)), (a40, .inl (cI, 12, .inl sp)), (a45, .inl (cI, 64, .inl rt)), (a48, .inl (cI, 2, .inl cu)), (a49, .inl (cI, 16, .inl spt)), (a51, .inl (cI, 13, .inl (fun j => nI (mv j))))]) (va_runV (As := [.int z1]) (rest := []) ⟨hx, hb, hml, hown, hts⟩ (x_next9 l D cI cB cZ h0 a0 a23 (.ref a1) (.ref a2) (.ref a3) (.ref a4) (.ref a5) (.ref a6) (.ref a7) (.ref a8) (.ref a9) (.ref a10) (.int ld) (.ref a12) (.ref a13) (.ref a14) (.ref a15) (.ref a16) (.ref a17) (.ref a18) (.ref a19) (.ref a20) (.ref a21) (.ref a22) (.ref a24) (.int (nI dn)) (.ref a27) (.int (nI tz)) (.int fk) (.int fp) (.int so) (.int (nI bg)) (.int (nI ten)) (.long wd) (.int (nI tk)) (.int sd) (.int nb) (.int np) (.int pli) (.ref a40) (.int rc) (.int rR) (.int rW) (.int rX) (.ref a45) (.int (nI rs)) (.int cm) (.ref a48) (.ref a49) (.int (nI sno)) (.ref a51) mo C mf z1 hB.1 _) (cwV 1 hts gP_law__x_next9 rfl rfl rfl (by decide +kernel) ⟨Nat.le_of_ble_eq_true rfl, Nat.le_of_ble_eq_true rfl⟩) (gx_preV (ci := 9) (q0 := 0) hK gN.nil (gq_Pl hP) (gq_Dl hD) [0, 1, 23] rfl rfl rfl rfl) rfl rfl hl.1 rfl (lv_room (Nat.le_of_ble_eq_true rfl)) dL_law_418 ⟨(Nat.le_trans (Nat.add_le_add_right hkb.1 _) (Nat.le_of_ble_eq_true rfl)), (Nat.le_trans (Nat.add_le_add_right hkb.2 _) (Nat.le_of_ble_eq_true rfl))⟩) hP hD hS hA [0, 1, 23] [2, 3, 4, 5, 6, 7, 8, 9, 10, 11, 12, 13, 14, 15, 16, 17, 18, 19, 20, 21, 22, 24, 25, 26, 27, 28, 29, 30] rfl rfl rfl (by decide) (fun r1 w1 H locs hp hP hD hS => ?_)
  obtain ⟨e_1, hp⟩ := hp
  obtain ⟨hx418_0, hp⟩ := hp
  obtain ⟨h9, hp⟩ := hp
  subst hp
  have h9 := h9.symm
  subst h9
  have hx418_0 : rQ (fun a b c => ¬ mo < 0 ∧ a < C 0 ∧ b = 0 ∧ c = 0) (fun a _ _ => mf a) (-1) z1 (nI 0) (nI 0) e_1 := hx418_0
  have hP : va_P D vwCl ([(a1, .inl (cI, 9, .inl (fun j => nI (Mn j)))), (a2, .inl (cI, 108, .inl kd)), (a3, .inl (cI, 108, .inl cl)), (a4, .inl (cI, 108, .inl rg)), (a5, .inl (cI, 108, .inl uv1)), (a6, .inl (cI, 108, .inl ui1)), (a7, .inl (cI, 108, .inl uv2)), (a8, .inl (cI, 108, .inl ui2)), (a9, .inl (cI, 108, .inl sk)), (a10, .inl (cI, 12, .inl ci)), (a12, .inl (cI, 522000, .inl sf)), (a13, .inl (cI, 9000, .inl fr)), (a14, .inl (cI, 9000, .inl bf)), (a15, .inl (cI, 9000, .inl nf)), (a16, .inl (cI, 12288, .inl hf)), (a17, .inl (cI, 3, .inl (fun j => nI (S j)))), (a18, .inl (cZ, 3, .inl ff)), (a19, .inl (cZ, 3, .inl df)), (a20, .inl (cI, 9000, .inl en)), (a21, .inl (cI, 3, .inl (fun j => nI (E j)))), (a22, .inl (cI, 58, .inl nw)), (a24, .inl (cI, 2900, .inl hh)), (a27, .inl (cB, 4000, .inl f)), (a40, .inl (cI, 12, .inl sp)), (a45, .inl (cI, 64, .inl rt)), (a48, .inl (cI, 2, .inl cu)), (a49, .inl (cI, 16, .inl spt)), (a51, .inl (cI, 13, .inl (fun j => nI (mv j)))), (h0, .inr (9, [.ref a0, .ref a1, .ref a2, .ref a3, .ref a4, .ref a5, .ref a6, .ref a7, .ref a8, .ref a9, .ref a10, .int ld, .ref a12, .ref a13, .ref a14, .ref a15, .ref a16, .ref a17, .ref a18, .ref a19, .ref a20, .ref a21, .ref a22, .ref a23, .ref a24, .int (nI dn), .int mo, .ref a27, .int (nI tz), .int fk, .int fp, .int so, .int (nI bg), .int (nI ten), .long wd, .int (nI tk), .int sd, .int nb, .int np, .int pli, .ref a40, .int rc, .int rR, .int rW, .int rX, .ref a45, .int (nI rs), .int cm, .ref a48, .ref a49, .int (nI sno), .ref a51])), (a0, .inl (cI, 3, .inl (fun j => nI (C j)))), (a23, .inl (cI, 58, .inl mf))] ++ w9) H := hP
  have hD : va_D A ([(a1, .inl (cI, 9, .inl (fun j => nI (Mn j)))), (a2, .inl (cI, 108, .inl kd)), (a3, .inl (cI, 108, .inl cl)), (a4, .inl (cI, 108, .inl rg)), (a5, .inl (cI, 108, .inl uv1)), (a6, .inl (cI, 108, .inl ui1)), (a7, .inl (cI, 108, .inl uv2)), (a8, .inl (cI, 108, .inl ui2)), (a9, .inl (cI, 108, .inl sk)), (a10, .inl (cI, 12, .inl ci)), (a12, .inl (cI, 522000, .inl sf)), (a13, .inl (cI, 9000, .inl fr)), (a14, .inl (cI, 9000, .inl bf)), (a15, .inl (cI, 9000, .inl nf)), (a16, .inl (cI, 12288, .inl hf)), (a17, .inl (cI, 3, .inl (fun j => nI (S j)))), (a18, .inl (cZ, 3, .inl ff)), (a19, .inl (cZ, 3, .inl df)), (a20, .inl (cI, 9000, .inl en)), (a21, .inl (cI, 3, .inl (fun j => nI (E j)))), (a22, .inl (cI, 58, .inl nw)), (a24, .inl (cI, 2900, .inl hh)), (a27, .inl (cB, 4000, .inl f)), (a40, .inl (cI, 12, .inl sp)), (a45, .inl (cI, 64, .inl rt)), (a48, .inl (cI, 2, .inl cu)), (a49, .inl (cI, 16, .inl spt)), (a51, .inl (cI, 13, .inl (fun j => nI (mv j)))), (h0, .inr (9, [.ref a0, .ref a1, .ref a2, .ref a3, .ref a4, .ref a5, .ref a6, .ref a7, .ref a8, .ref a9, .ref a10, .int ld, .ref a12, .ref a13, .ref a14, .ref a15, .ref a16, .ref a17, .ref a18, .ref a19, .ref a20, .ref a21, .ref a22, .ref a23, .ref a24, .int (nI dn), .int mo, .ref a27, .int (nI tz), .int fk, .int fp, .int so, .int (nI bg), .int (nI ten), .long wd, .int (nI tk), .int sd, .int nb, .int np, .int pli, .ref a40, .int rc, .int rR, .int rW, .int rX, .ref a45, .int (nI rs), .int cm, .ref a48, .ref a49, .int (nI sno), .ref a51])), (a0, .inl (cI, 3, .inl (fun j => nI (C j)))), (a23, .inl (cI, 58, .inl mf))] ++ w9) := hD
  refine W.widen (k := kc) (n := ns) (Nat.le_refl _) (Nat.le_refl _) ?_
  have hP := gq_subP (X' := [(h0, .inr (9, [.ref a0, .ref a1, .ref a2, .ref a3, .ref a4, .ref a5, .ref a6, .ref a7, .ref a8, .ref a9, .ref a10, .int ld, .ref a12, .ref a13, .ref a14, .ref a15, .ref a16, .ref a17, .ref a18, .ref a19, .ref a20, .ref a21, .ref a22, .ref a23, .ref a24, .int (nI dn), .int mo, .ref a27, .int (nI tz), .int fk, .int fp, .int so, .int (nI bg), .int (nI ten), .long wd, .int (nI tk), .int sd, .int nb, .int np, .int pli, .ref a40, .int rc, .int rR, .int rW, .int rX, .ref a45, .int (nI rs), .int cm, .ref a48, .ref a49, .int (nI sno), .ref a51])), (a0, .inl (cI, 3, .inl (fun j => nI (C j)))), (a1, .inl (cI, 9, .inl (fun j => nI (Mn j)))), (a2, .inl (cI, 108, .inl kd)), (a3, .inl (cI, 108, .inl cl)), (a4, .inl (cI, 108, .inl rg)), (a5, .inl (cI, 108, .inl uv1)), (a6, .inl (cI, 108, .inl ui1)), (a7, .inl (cI, 108, .inl uv2)), (a8, .inl (cI, 108, .inl ui2)), (a9, .inl (cI, 108, .inl sk)), (a10, .inl (cI, 12, .inl ci)), (a12, .inl (cI, 522000, .inl sf)), (a13, .inl (cI, 9000, .inl fr)), (a14, .inl (cI, 9000, .inl bf)), (a15, .inl (cI, 9000, .inl nf)), (a16, .inl (cI, 12288, .inl hf)), (a17, .inl (cI, 3, .inl (fun j => nI (S j)))), (a18, .inl (cZ, 3, .inl ff)), (a19, .inl (cZ, 3, .inl df)), (a20, .inl (cI, 9000, .inl en)), (a21, .inl (cI, 3, .inl (fun j => nI (E j)))), (a22, .inl (cI, 58, .inl nw)), (a23, .inl (cI, 58, .inl mf)), (a24, .inl (cI, 2900, .inl hh)), (a27, .inl (cB, 4000, .inl f)), (a40, .inl (cI, 12, .inl sp)), (a45, .inl (cI, 64, .inl rt)), (a48, .inl (cI, 2, .inl cu)), (a49, .inl (cI, 16, .inl spt)), (a51, .inl (cI, 13, .inl (fun j => nI (mv j))))]) hP [28, 29, 0, 1, 2, 3, 4, 5, 6, 7, 8, 9, 10, 11, 12, 13, 14, 15, 16, 17, 18, 19, 20, 30, 21, 22, 23, 24, 25, 26, 27] rfl
  have hD := gq_subD (X' := [(h0, .inr (9, [.ref a0, .ref a1, .ref a2, .ref a3, .ref a4, .ref a5, .ref a6, .ref a7, .ref a8, .ref a9, .ref a10, .int ld, .ref a12, .ref a13, .ref a14, .ref a15, .ref a16, .ref a17, .ref a18, .ref a19, .ref a20, .ref a21, .ref a22, .ref a23, .ref a24, .int (nI dn), .int mo, .ref a27, .int (nI tz), .int fk, .int fp, .int so, .int (nI bg), .int (nI ten), .long wd, .int (nI tk), .int sd, .int nb, .int np, .int pli, .ref a40, .int rc, .int rR, .int rW, .int rX, .ref a45, .int (nI rs), .int cm, .ref a48, .ref a49, .int (nI sno), .ref a51])), (a0, .inl (cI, 3, .inl (fun j => nI (C j)))), (a1, .inl (cI, 9, .inl (fun j => nI (Mn j)))), (a2, .inl (cI, 108, .inl kd)), (a3, .inl (cI, 108, .inl cl)), (a4, .inl (cI, 108, .inl rg)), (a5, .inl (cI, 108, .inl uv1)), (a6, .inl (cI, 108, .inl ui1)), (a7, .inl (cI, 108, .inl uv2)), (a8, .inl (cI, 108, .inl ui2)), (a9, .inl (cI, 108, .inl sk)), (a10, .inl (cI, 12, .inl ci)), (a12, .inl (cI, 522000, .inl sf)), (a13, .inl (cI, 9000, .inl fr)), (a14, .inl (cI, 9000, .inl bf)), (a15, .inl (cI, 9000, .inl nf)), (a16, .inl (cI, 12288, .inl hf)), (a17, .inl (cI, 3, .inl (fun j => nI (S j)))), (a18, .inl (cZ, 3, .inl ff)), (a19, .inl (cZ, 3, .inl df)), (a20, .inl (cI, 9000, .inl en)), (a21, .inl (cI, 3, .inl (fun j => nI (E j)))), (a22, .inl (cI, 58, .inl nw)), (a23, .inl (cI, 58, .inl mf)), (a24, .inl (cI, 2900, .inl hh)), (a27, .inl (cB, 4000, .inl f)), (a40, .inl (cI, 12, .inl sp)), (a45, .inl (cI, 64, .inl rt)), (a48, .inl (cI, 2, .inl cu)), (a49, .inl (cI, 16, .inl spt)), (a51, .inl (cI, 13, .inl (fun j => nI (mv j))))]) hD [28, 29, 0, 1, 2, 3, 4, 5, 6, 7, 8, 9, 10, 11, 12, 13, 14, 15, 16, 17, 18, 19, 20, 30, 21, 22, 23, 24, 25, 26, 27] (by decide) rfl
  exact kk e_1 _ H locs (ModelI_mk cI cB cZ h0 tz f fp ld nc L cf pf vst vk vm vd a0 a1 a2 a3 a4 a5 a6 a7 a8 a9 a10 a12 a13 a14 a15 a16 a17 a18 a19 a20 a21 a22 a23 a24 a27 a40 a45 a48 a49 a51 C Mn kd cl rg uv1 ui1 uv2 ui2 sk ci sf fr bf nf hf S ff df en E nw mf hh sp rt cu spt mv dn mo fk so bg ten wd tk sd nb np pli rc rR rW rX rs cm sno htp hB hMo hAn hrs hcm hMP hMH) trivial hP hD hS
