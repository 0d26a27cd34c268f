set_option maxHeartbeats 4000000 in
set_option maxRecDepth 100000 in
theorem md_store {p : Program} {l : Launch} {e : Env} {s : State} {m : MethodId} {below : List Frame} {meth : Method} {c : Code} {b : Nat} {A : Nat → Prop} {Q : State → Prop} {D : va_G} {cI cB cZ : ClassId} {K : gKS} (G : gL p s m c b A D cI cB cZ K) {H : Heap} {locs : List Loc} {ls : Array Slot} {w8 w9 : va_W} {h0 tz kc ns tz9 : Nat} {f f9 : Nat → Int32} {fp ld fp9 ld9 : Int32} {nc nc9 : Nat} {L L9 : Nat → Nat} {cf cf9 : Nat → Int32} {pf pf9 : Nat → Int32} {vst vst9 : Int32} {vk vk9 : Nat} {vm vm9 : Int32} {vd vd9 : Nat → Int32} (hkb : kc ≤ 20000 ∧ ns ≤ 2000000) (hH : ModelI cI cB cZ h0 w8 tz f fp ld nc L cf pf vst vk vm vd) (hP : va_P D vwCl (w8 ++ w9) H) (hD : va_D A (w8 ++ w9)) (hS : va_S A s.heap H locs) (hl : ls.size = 4 ∧ True) (z1 : Int32) (z2 : Int32) (z3 : Int32) (r8 : Int32) (hR : rQ (fun a b c => ¬ vst = 0 ∧ ¬ ld = 0 ∧ a < nc ∧ b < gSz ((gRun pf cf vm vd vk) (13 + a)) ∧ c < 2) (fun a b c => if c = 0 then nI (gCl ((gRun pf cf vm vd vk) (13 + a)) b) else (gRun pf cf vm vd vk) ((16 + (a * 6)) + b)) (-1) z1 z2 z3 r8 ∧ tz = tz9 ∧ f = f9 ∧ fp = fp9 ∧ ld = ld9 ∧ nc = nc9 ∧ L = L9 ∧ cf = cf9 ∧ pf = pf9 ∧ vst = vst9 ∧ vk = vk9 ∧ vm = vm9 ∧ vd = vd9) (kk : ∀ (r : Int32) (w8' : va_W) (H1 : Heap) (locs1 : List Loc), ModelI cI cB cZ h0 w8' tz9 f9 fp9 ld9 nc9 L9 cf9 pf9 vst9 vk9 vm9 vd9 → (True) → va_P D vwCl (w8' ++ w9) H1 → va_D A (w8' ++ w9) → va_S A s.heap H1 locs1 → W p l e room_1 s m #[Value.ref b] below meth c H1 locs1 kc ns Q (F0 m 464 ls [.int r])) : W p l e room_1 s m #[Value.ref b] below meth c H locs kc ns Q (F0 m 461 ls [.int z3, .int z2, .int z1, .ref h0]) := by
  obtain ⟨hx, hb, hml, hown, hts, hA, hK, hN, hE⟩ := G
  unfold ModelI at hH
  obtain ⟨a0, hH⟩ := hH
  obtain ⟨a1, hH⟩ := hH
  obtain ⟨a2, hH⟩ := hH
  obtain ⟨a3, hH⟩ := hH
  obtain ⟨a4, hH⟩ := hH
  obtain ⟨a5, hH⟩ := hH
  obtain ⟨a6, hH⟩ := hH
  obtain ⟨a7, hH⟩ := hH
  obtain ⟨a8, hH⟩ := hH
  obtain ⟨a9, hH⟩ := hH
  obtain ⟨a10, hH⟩ := hH
  obtain ⟨a12, hH⟩ := hH
  obtain ⟨a13, hH⟩ := hH
  obtain ⟨a14, hH⟩ := hH
  obtain ⟨a15, hH⟩ := hH
  obtain ⟨a16, hH⟩ := hH
  obtain ⟨a17, hH⟩ := hH
  obtain ⟨a18, hH⟩ := hH
  obtain ⟨a19, hH⟩ := hH
  obtain ⟨a20, hH⟩ := hH
  obtain ⟨a21, hH⟩ := hH
  obtain ⟨a22, hH⟩ := hH
  obtain ⟨a23, hH⟩ := hH
  obtain ⟨a24, hH⟩ := hH
  obtain ⟨a27, hH⟩ := hH
  obtain ⟨a40, hH⟩ := hH
  obtain ⟨a45, hH⟩ := hH
  obtain ⟨a48, hH⟩ := hH
  obtain ⟨a49, hH⟩ := hH
  obtain ⟨a51, hH⟩ := hH
  obtain ⟨C, hH⟩ := hH
  obtain ⟨Mn, hH⟩ := hH
  obtain ⟨kd, hH⟩ := hH
  obtain ⟨cl, hH⟩ := hH
  obtain ⟨rg, hH⟩ := hH
  obtain ⟨uv1, hH⟩ := hH
  obtain ⟨ui1, hH⟩ := hH
  obtain ⟨uv2, hH⟩ := hH
  obtain ⟨ui2, hH⟩ := hH
  obtain ⟨sk, hH⟩ := hH
  obtain ⟨ci, hH⟩ := hH
  obtain ⟨sf, hH⟩ := hH
  obtain ⟨fr, hH⟩ := hH
  obtain ⟨bf, hH⟩ := hH
  obtain ⟨nf, hH⟩ := hH
  obtain ⟨hf, hH⟩ := hH
  obtain ⟨S, hH⟩ := hH
  obtain ⟨ff, hH⟩ := hH
  obtain ⟨df, hH⟩ := hH
  obtain ⟨en, hH⟩ := hH
  obtain ⟨E, hH⟩ := hH
  obtain ⟨nw, hH⟩ := hH
  obtain ⟨mf, hH⟩ := hH
  obtain ⟨hh, hH⟩ := hH
  obtain ⟨sp, hH⟩ := hH
  obtain ⟨rt, hH⟩ := hH
  obtain ⟨cu, hH⟩ := hH
  obtain ⟨spt, hH⟩ := hH
  obtain ⟨mv, hH⟩ := hH
  obtain ⟨dn, hH⟩ := hH
  obtain ⟨mo, hH⟩ := hH
  obtain ⟨fk, hH⟩ := hH
  obtain ⟨so, hH⟩ := hH
  obtain ⟨bg, hH⟩ := hH
  obtain ⟨ten, hH⟩ := hH
  obtain ⟨wd, hH⟩ := hH
  obtain ⟨tk, hH⟩ := hH
  obtain ⟨sd, hH⟩ := hH
  obtain ⟨nb, hH⟩ := hH
  obtain ⟨np, hH⟩ := hH
  obtain ⟨pli, hH⟩ := hH
  obtain ⟨rc, hH⟩ := hH
  obtain ⟨rR, hH⟩ := hH
  obtain ⟨rW, hH⟩ := hH
  obtain ⟨rX, hH⟩ := hH
  obtain ⟨rs, hH⟩ := hH
  obtain ⟨cm, hH⟩ := hH
  obtain ⟨sno, hH⟩ := hH
  obtain ⟨htp, hH⟩ := hH
  obtain ⟨hB, hH⟩ := hH
  obtain ⟨hMo, hH⟩ := hH
  obtain ⟨hAn, hH⟩ := hH
  obtain ⟨hrs, hH⟩ := hH
  obtain ⟨hcm, hH⟩ := hH
  obtain ⟨hMP, hH⟩ := hH
  obtain ⟨hMH, hH⟩ := hH
  subst hH
  obtain ⟨-, e1, e2, e3, e4, e5, e6, e7, e8, e9, e10, e11, e12⟩ := id hR
  subst e1; subst e2; subst e3; subst e4; subst e5; subst e6; subst e7; subst e8; subst e9; subst e10; subst e11; subst e12
  rcases id hMo with hm0 | hmo
  · have hrz : ¬ mo < 0 → ∀ k, k < 3 → mf (16 + (13 * k)) = nI ((fun _ => 0 : Nat → Nat) k) ∧ (fun _ => 0 : Nat → Nat) k ≤ 6 := fun h => absurd (by rw [hm0]; decide) h
    refine gq_goi (wc := [(h0, .inr (9, [.ref a0, .ref a1, .ref a2, .ref a3, .ref a4, .ref a5, .ref a6, .ref a7, .ref a8, .ref a9, .ref a10, .int ld, .ref a12, .ref a13, .ref a14, .ref a15, .ref a16, .ref a17, .ref a18, .ref a19, .ref a20, .ref a21, .ref a22, .ref a23, .ref a24, .int (nI dn), .int mo, .ref a27, .int (nI tz), .int fk, .int fp, .int so, .int (nI bg), .int (nI ten), .long wd, .int (nI tk), .int sd, .int nb, .int np, .int pli, .ref a40, .int rc, .int rR, .int rW, .int rX, .ref a45, .int (nI rs), .int cm, .ref a48, .ref a49, .int (nI sno), .ref a51])), (a0, .inl (cI, 3, .inl (fun j => nI (C j)))), (a23, .inl (cI, 58, .inl mf))]) (wr := [(a1, .inl (cI, 9, .inl (fun j => nI (Mn j)))), (a2, .inl (cI, 108, .inl kd)), (a3, .inl (cI, 108, .inl cl)), (a4, .inl (cI, 108, .inl rg)), (a5, .inl (cI, 108, .inl uv1)), (a6, .inl (cI, 108, .inl ui1)), (a7, .inl (cI, 108, .inl uv2)), (a8, .inl (cI, 108, .inl ui2)), (a9, .inl (cI, 108, .inl sk)), (a10, .inl (cI, 12, .inl ci)), (a12, .inl (cI, 522000, .inl sf)), (a13, .inl (cI, 9000, .inl fr)), (a14, .inl (cI, 9000, .inl bf)), (a15, .inl (cI, 9000, .inl nf)), (a16, .inl (cI, 12288, .inl hf)), (a17, .inl (cI, 3, .inl (fun j => nI (S j)))), (a18, .inl (cZ, 3, .inl ff)), (a19, .inl (cZ, 3, .inl df)), (a20, .inl (cI, 9000, .inl en)), (a21, .inl (cI, 3, .inl (fun j => nI (E j)))), (a22, .inl (cI, 58, .inl nw)), (a24, .inl (cI, 2900, .inl hh)), (a27, .inl (cB, 4000, .inl f)), (a40, .inl (cI, 12, .inl sp)), (a45, .inl (cI, 64, .inl rt)), (a48, .inl (cI, 2, .inl cu)), (a49, .inl (cI, 16, .inl spt)), (a51, .inl (cI, 13, .inl (fun j => nI (mv j))))]) (va_runV (As := [.int z1, .int z2, .int z3]) (rest := []) ⟨hx, hb, hml, hown, hts⟩ (x_store9 l D cI cB cZ h0 a0 a23 (.ref a1) (.ref a2) (.ref a3) (.ref a4) (.ref a5) (.ref a6) (.ref a7) (.ref a8) (.ref a9) (.ref a10) (.int ld) (.ref a12) (.ref a13) (.ref a14) (.ref a15) (.ref a16) (.ref a17) (.ref a18) (.ref a19) (.ref a20) (.ref a21) (.ref a22) (.ref a24) (.int (nI dn)) (.ref a27) (.int (nI tz)) (.int fk) (.int fp) (.int so) (.int (nI bg)) (.int (nI ten)) (.long wd) (.int (nI tk)) (.int sd) (.int nb) (.int np) (.int pli) (.ref a40) (.int rc) (.int rR) (.int rW) (.int rX) (.ref a45) (.int (nI rs)) (.int cm) (.ref a48) (.ref a49) (.int (nI sno)) (.ref a51) mo C mf (fun _ => 0) z1 z2 z3 hB.1 hrz _) (cwV 3 hts gP_law__x_store9 rfl rfl rfl (by decide +kernel) ⟨Nat.le_of_ble_eq_true rfl, Nat.le_of_ble_eq_true rfl⟩) (gx_preV (ci := 9) (q0 := 0) hK gN.nil (gq_Pl hP) (gq_Dl hD) [0, 1, 23] rfl rfl rfl rfl) rfl rfl hl.1 rfl (lv_room (Nat.le_of_ble_eq_true rfl)) dL_law_461 ⟨(Nat.le_trans (Nat.add_le_add_right hkb.1 _) (Nat.le_of_ble_eq_true rfl)), (Nat.le_trans (Nat.add_le_add_right hkb.2 _) (Nat.le_of_ble_eq_true rfl))⟩) hP hD hS hA [0, 1, 23] [2, 3, 4, 5, 6, 7, 8, 9, 10, 11, 12, 13, 14, 15, 16, 17, 18, 19, 20, 21, 22, 24, 25, 26, 27, 28, 29, 30] rfl rfl rfl (by decide) (fun r1 w1 H locs hp hP hD hS => ?_)
    obtain ⟨e_1, hp⟩ := hp
    obtain ⟨hx461_0, hp⟩ := hp
    obtain ⟨h9, hp⟩ := hp
    subst hp
    have h9 := h9.symm
    subst h9
    have hx461_0 : rQ (fun a b c => ¬ mo < 0 ∧ a < C 0 ∧ b < (fun _ => 0) a ∧ c < 2) (fun a b c => mf ((((16 + (13 * a)) + 1) + (2 * b)) + c)) (-1) z1 z2 z3 e_1 := hx461_0
    have hP : va_P D vwCl ([(a1, .inl (cI, 9, .inl (fun j => nI (Mn j)))), (a2, .inl (cI, 108, .inl kd)), (a3, .inl (cI, 108, .inl cl)), (a4, .inl (cI, 108, .inl rg)), (a5, .inl (cI, 108, .inl uv1)), (a6, .inl (cI, 108, .inl ui1)), (a7, .inl (cI, 108, .inl uv2)), (a8, .inl (cI, 108, .inl ui2)), (a9, .inl (cI, 108, .inl sk)), (a10, .inl (cI, 12, .inl ci)), (a12, .inl (cI, 522000, .inl sf)), (a13, .inl (cI, 9000, .inl fr)), (a14, .inl (cI, 9000, .inl bf)), (a15, .inl (cI, 9000, .inl nf)), (a16, .inl (cI, 12288, .inl hf)), (a17, .inl (cI, 3, .inl (fun j => nI (S j)))), (a18, .inl (cZ, 3, .inl ff)), (a19, .inl (cZ, 3, .inl df)), (a20, .inl (cI, 9000, .inl en)), (a21, .inl (cI, 3, .inl (fun j => nI (E j)))), (a22, .inl (cI, 58, .inl nw)), (a24, .inl (cI, 2900, .inl hh)), (a27, .inl (cB, 4000, .inl f)), (a40, .inl (cI, 12, .inl sp)), (a45, .inl (cI, 64, .inl rt)), (a48, .inl (cI, 2, .inl cu)), (a49, .inl (cI, 16, .inl spt)), (a51, .inl (cI, 13, .inl (fun j => nI (mv j)))), (h0, .inr (9, [.ref a0, .ref a1, .ref a2, .ref a3, .ref a4, .ref a5, .ref a6, .ref a7, .ref a8, .ref a9, .ref a10, .int ld, .ref a12, .ref a13, .ref a14, .ref a15, .ref a16, .ref a17, .ref a18, .ref a19, .ref a20, .ref a21, .ref a22, .ref a23, .ref a24, .int (nI dn), .int mo, .ref a27, .int (nI tz), .int fk, .int fp, .int so, .int (nI bg), .int (nI ten), .long wd, .int (nI tk), .int sd, .int nb, .int np, .int pli, .ref a40, .int rc, .int rR, .int rW, .int rX, .ref a45, .int (nI rs), .int cm, .ref a48, .ref a49, .int (nI sno), .ref a51])), (a0, .inl (cI, 3, .inl (fun j => nI (C j)))), (a23, .inl (cI, 58, .inl mf))] ++ w9) H := hP
    have hD : va_D A ([(a1, .inl (cI, 9, .inl (fun j => nI (Mn j)))), (a2, .inl (cI, 108, .inl kd)), (a3, .inl (cI, 108, .inl cl)), (a4, .inl (cI, 108, .inl rg)), (a5, .inl (cI, 108, .inl uv1)), (a6, .inl (cI, 108, .inl ui1)), (a7, .inl (cI, 108, .inl uv2)), (a8, .inl (cI, 108, .inl ui2)), (a9, .inl (cI, 108, .inl sk)), (a10, .inl (cI, 12, .inl ci)), (a12, .inl (cI, 522000, .inl sf)), (a13, .inl (cI, 9000, .inl fr)), (a14, .inl (cI, 9000, .inl bf)), (a15, .inl (cI, 9000, .inl nf)), (a16, .inl (cI, 12288, .inl hf)), (a17, .inl (cI, 3, .inl (fun j => nI (S j)))), (a18, .inl (cZ, 3, .inl ff)), (a19, .inl (cZ, 3, .inl df)), (a20, .inl (cI, 9000, .inl en)), (a21, .inl (cI, 3, .inl (fun j => nI (E j)))), (a22, .inl (cI, 58, .inl nw)), (a24, .inl (cI, 2900, .inl hh)), (a27, .inl (cB, 4000, .inl f)), (a40, .inl (cI, 12, .inl sp)), (a45, .inl (cI, 64, .inl rt)), (a48, .inl (cI, 2, .inl cu)), (a49, .inl (cI, 16, .inl spt)), (a51, .inl (cI, 13, .inl (fun j => nI (mv j)))), (h0, .inr (9, [.ref a0, .ref a1, .ref a2, .ref a3, .ref a4, .ref a5, .ref a6, .ref a7, .ref a8, .ref a9, .ref a10, .int ld, .ref a12, .ref a13, .ref a14, .ref a15, .ref a16, .ref a17, .ref a18, .ref a19, .ref a20, .ref a21, .ref a22, .ref a23, .ref a24, .int (nI dn), .int mo, .ref a27, .int (nI tz), .int fk, .int fp, .int so, .int (nI bg), .int (nI ten), .long wd, .int (nI tk), .int sd, .int nb, .int np, .int pli, .ref a40, .int rc, .int rR, .int rW, .int rX, .ref a45, .int (nI rs), .int cm, .ref a48, .ref a49, .int (nI sno), .ref a51])), (a0, .inl (cI, 3, .inl (fun j => nI (C j)))), (a23, .inl (cI, 58, .inl mf))] ++ w9) := hD
    refine W.widen (k := kc) (n := ns) (Nat.le_refl _) (Nat.le_refl _) ?_
    have hP := gq_subP (X' := [(h0, .inr (9, [.ref a0, .ref a1, .ref a2, .ref a3, .ref a4, .ref a5, .ref a6, .ref a7, .ref a8, .ref a9, .ref a10, .int ld, .ref a12, .ref a13, .ref a14, .ref a15, .ref a16, .ref a17, .ref a18, .ref a19, .ref a20, .ref a21, .ref a22, .ref a23, .ref a24, .int (nI dn), .int mo, .ref a27, .int (nI tz), .int fk, .int fp, .int so, .int (nI bg), .int (nI ten), .long wd, .int (nI tk), .int sd, .int nb, .int np, .int pli, .ref a40, .int rc, .int rR, .int rW, .int rX, .ref a45, .int (nI rs), .int cm, .ref a48, .ref a49, .int (nI sno), .ref a51])), (a0, .inl (cI, 3, .inl (fun j => nI (C j)))), (a1, .inl (cI, 9, .inl (fun j => nI (Mn j)))), (a2, .inl (cI, 108, .inl kd)), (a3, .inl (cI, 108, .inl cl)), (a4, .inl (cI, 108, .inl rg)), (a5, .inl (cI, 108, .inl uv1)), (a6, .inl (cI, 108, .inl ui1)), (a7, .inl (cI, 108, .inl uv2)), (a8, .inl (cI, 108, .inl ui2)), (a9, .inl (cI, 108, .inl sk)), (a10, .inl (cI, 12, .inl ci)), (a12, .inl (cI, 522000, .inl sf)), (a13, .inl (cI, 9000, .inl fr)), (a14, .inl (cI, 9000, .inl bf)), (a15, .inl (cI, 9000, .inl nf)), (a16, .inl (cI, 12288, .inl hf)), (a17, .inl (cI, 3, .inl (fun j => nI (S j)))), (a18, .inl (cZ, 3, .inl ff)), (a19, .inl (cZ, 3, .inl df)), (a20, .inl (cI, 9000, .inl en)), (a21, .inl (cI, 3, .inl (fun j => nI (E j)))), (a22, .inl (cI, 58, .inl nw)), (a23, .inl (cI, 58, .inl mf)), (a24, .inl (cI, 2900, .inl hh)), (a27, .inl (cB, 4000, .inl f)), (a40, .inl (cI, 12, .inl sp)), (a45, .inl (cI, 64, .inl rt)), (a48, .inl (cI, 2, .inl cu)), (a49, .inl (cI, 16, .inl spt)), (a51, .inl (cI, 13, .inl (fun j => nI (mv j))))]) hP [28, 29, 0, 1, 2, 3, 4, 5, 6, 7, 8, 9, 10, 11, 12, 13, 14, 15, 16, 17, 18, 19, 20, 30, 21, 22, 23, 24, 25, 26, 27] rfl
    have hD := gq_subD (X' := [(h0, .inr (9, [.ref a0, .ref a1, .ref a2, .ref a3, .ref a4, .ref a5, .ref a6, .ref a7, .ref a8, .ref a9, .ref a10, .int ld, .ref a12, .ref a13, .ref a14, .ref a15, .ref a16, .ref a17, .ref a18, .ref a19, .ref a20, .ref a21, .ref a22, .ref a23, .ref a24, .int (nI dn), .int mo, .ref a27, .int (nI tz), .int fk, .int fp, .int so, .int (nI bg), .int (nI ten), .long wd, .int (nI tk), .int sd, .int nb, .int np, .int pli, .ref a40, .int rc, .int rR, .int rW, .int rX, .ref a45, .int (nI rs), .int cm, .ref a48, .ref a49, .int (nI sno), .ref a51])), (a0, .inl (cI, 3, .inl (fun j => nI (C j)))), (a1, .inl (cI, 9, .inl (fun j => nI (Mn j)))), (a2, .inl (cI, 108, .inl kd)), (a3, .inl (cI, 108, .inl cl)), (a4, .inl (cI, 108, .inl rg)), (a5, .inl (cI, 108, .inl uv1)), (a6, .inl (cI, 108, .inl ui1)), (a7, .inl (cI, 108, .inl uv2)), (a8, .inl (cI, 108, .inl ui2)), (a9, .inl (cI, 108, .inl sk)), (a10, .inl (cI, 12, .inl ci)), (a12, .inl (cI, 522000, .inl sf)), (a13, .inl (cI, 9000, .inl fr)), (a14, .inl (cI, 9000, .inl bf)), (a15, .inl (cI, 9000, .inl nf)), (a16, .inl (cI, 12288, .inl hf)), (a17, .inl (cI, 3, .inl (fun j => nI (S j)))), (a18, .inl (cZ, 3, .inl ff)), (a19, .inl (cZ, 3, .inl df)), (a20, .inl (cI, 9000, .inl en)), (a21, .inl (cI, 3, .inl (fun j => nI (E j)))), (a22, .inl (cI, 58, .inl nw)), (a23, .inl (cI, 58, .inl mf)), (a24, .inl (cI, 2900, .inl hh)), (a27, .inl (cB, 4000, .inl f)), (a40, .inl (cI, 12, .inl sp)), (a45, .inl (cI, 64, .inl rt)), (a48, .inl (cI, 2, .inl cu)), (a49, .inl (cI, 16, .inl spt)), (a51, .inl (cI, 13, .inl (fun j => nI (mv j))))]) hD [28, 29, 0, 1, 2, 3, 4, 5, 6, 7, 8, 9, 10, 11, 12, 13, 14, 15, 16, 17, 18, 19, 20, 30, 21, 22, 23, 24, 25, 26, 27] (by decide) rfl
    exact kk e_1 _ H locs (ModelI_mk cI cB cZ h0 tz f fp ld nc L cf pf vst vk vm vd a0 a1 a2 a3 a4 a5 a6 a7 a8 a9 a10 a12 a13 a14 a15 a16 a17 a18 a19 a20 a21 a22 a23 a24 a27 a40 a45 a48 a49 a51 C Mn kd cl rg uv1 ui1 uv2 ui2 sk ci sf fr bf nf hf S ff df en E nw mf hh sp rt cu spt mv dn mo fk so bg ten wd tk sd nb np pli rc rR rW rX rs cm sno htp hB hMo hAn hrs hcm hMP hMH) trivial hP hD hS
  · obtain ⟨nx, rz, hG, _⟩ := (hmo.2.resolve_left hmo.1).1
    refine gq_goi (wc := [(h0, .inr (9, [.ref a0, .ref a1, .ref a2, .ref a3, .ref a4, .ref a5, .ref a6, .ref a7, .ref a8, .ref a9, .ref a10, .int ld, .ref a12, .ref a13, .ref a14, .ref a15, .ref a16, .ref a17, .ref a18, .ref a19, .ref a20, .ref a21, .ref a22, .ref a23, .ref a24, .int (nI dn), .int mo, .ref a27, .int (nI tz), .int fk, .int fp, .int so, .int (nI bg), .int (nI ten), .long wd, .int (nI tk), .int sd, .int nb, .int np, .int pli, .ref a40, .int rc, .int rR, .int rW, .int rX, .ref a45, .int (nI rs), .int cm, .ref a48, .ref a49, .int (nI sno), .ref a51])), (a0, .inl (cI, 3, .inl (fun j => nI (C j)))), (a23, .inl (cI, 58, .inl mf))]) (wr := [(a1, .inl (cI, 9, .inl (fun j => nI (Mn j)))), (a2, .inl (cI, 108, .inl kd)), (a3, .inl (cI, 108, .inl cl)), (a4, .inl (cI, 108, .inl rg)), (a5, .inl (cI, 108, .inl uv1)), (a6, .inl (cI, 108, .inl ui1)), (a7, .inl (cI, 108, .inl uv2)), (a8, .inl (cI, 108, .inl ui2)), (a9, .inl (cI, 108, .inl sk)), (a10, .inl (cI, 12, .inl ci)), (a12, .inl (cI, 522000, .inl sf)), (a13, .inl (cI, 9000, .inl fr)), (a14, .inl (cI, 9000, .inl bf)), (a15, .inl (cI, 9000, .inl nf)), (a16, .inl (cI, 12288, .inl hf)), (a17, .inl (cI, 3, .inl (fun j => nI (S j)))), (a18, .inl (cZ, 3, .inl ff)), (a19, .inl (cZ, 3, .inl df)), (a20, .inl (cI, 9000, .inl en)), (a21, .inl (cI, 3, .inl (fun j => nI (E j)))), (a22, .inl (cI, 58, .inl nw)), (a24, .inl (cI, 2900, .inl hh)), (a27, .inl (cB, 4000, .inl f)), (a40, .inl (cI, 12, .inl sp)), (a45, .inl (cI, 64, .inl rt)), (a48, .inl (cI, 2, .inl cu)), (a49, .inl (cI, 16, .inl spt)), (a51, .inl (cI, 13, .inl (fun j => nI (mv j))))]) (va_runV (As := [.int z1, .int z2, .int z3]) (rest := []) ⟨hx, hb, hml, hown, hts⟩ (x_store9 l D cI cB cZ h0 a0 a23 (.ref a1) (.ref a2) (.ref a3) (.ref a4) (.ref a5) (.ref a6) (.ref a7) (.ref a8) (.ref a9) (.ref a10) (.int ld) (.ref a12) (.ref a13) (.ref a14) (.ref a15) (.ref a16) (.ref a17) (.ref a18) (.ref a19) (.ref a20) (.ref a21) (.ref a22) (.ref a24) (.int (nI dn)) (.ref a27) (.int (nI tz)) (.int fk) (.int fp) (.int so) (.int (nI bg)) (.int (nI ten)) (.long wd) (.int (nI tk)) (.int sd) (.int nb) (.int np) (.int pli) (.ref a40) (.int rc) (.int rR) (.int rW) (.int rX) (.ref a45) (.int (nI rs)) (.int cm) (.ref a48) (.ref a49) (.int (nI sno)) (.ref a51) mo C mf rz z1 z2 z3 hB.1 (fun _ k hk => ⟨(hG k hk).2.1, (hG k hk).2.2.2.1⟩) _) (cwV 3 hts gP_law__x_store9 rfl rfl rfl (by decide +kernel) ⟨Nat.le_of_ble_eq_true rfl, Nat.le_of_ble_eq_true rfl⟩) (gx_preV (ci := 9) (q0 := 0) hK gN.nil (gq_Pl hP) (gq_Dl hD) [0, 1, 23] rfl rfl rfl rfl) rfl rfl hl.1 rfl (lv_room (Nat.le_of_ble_eq_true rfl)) dL_law_461 ⟨(Nat.le_trans (Nat.add_le_add_right hkb.1 _) (Nat.le_of_ble_eq_true rfl)), (Nat.le_trans (Nat.add_le_add_right hkb.2 _) (Nat.le_of_ble_eq_true rfl))⟩) hP hD hS hA [0, 1, 23] [2, 3, 4, 5, 6, 7, 8, 9, 10, 11, 12, 13, 14, 15, 16, 17, 18, 19, 20, 21, 22, 24, 25, 26, 27, 28, 29, 30] rfl rfl rfl (by decide) (fun r1 w1 H locs hp hP hD hS => ?_)
    obtain ⟨e_2, hp⟩ := hp
    obtain ⟨hx461_0, hp⟩ := hp
    obtain ⟨h9, hp⟩ := hp
    subst hp
    have h9 := h9.symm
    subst h9
    have hx461_0 : rQ (fun a b c => ¬ mo < 0 ∧ a < C 0 ∧ b < rz a ∧ c < 2) (fun a b c => mf ((((16 + (13 * a)) + 1) + (2 * b)) + c)) (-1) z1 z2 z3 e_2 := hx461_0
    have hP : va_P D vwCl ([(a1, .inl (cI, 9, .inl (fun j => nI (Mn j)))), (a2, .inl (cI, 108, .inl kd)), (a3, .inl (cI, 108, .inl cl)), (a4, .inl (cI, 108, .inl rg)), (a5, .inl (cI, 108, .inl uv1)), (a6, .inl (cI, 108, .inl ui1)), (a7, .inl (cI, 108, .inl uv2)), (a8, .inl (cI, 108, .inl ui2)), (a9, .inl (cI, 108, .inl sk)), (a10, .inl (cI, 12, .inl ci)), (a12, .inl (cI, 522000, .inl sf)), (a13, .inl (cI, 9000, .inl fr)), (a14, .inl (cI, 9000, .inl bf)), (a15, .inl (cI, 9000, .inl nf)), (a16, .inl (cI, 12288, .inl hf)), (a17, .inl (cI, 3, .inl (fun j => nI (S j)))), (a18, .inl (cZ, 3, .inl ff)), (a19, .inl (cZ, 3, .inl df)), (a20, .inl (cI, 9000, .inl en)), (a21, .inl (cI, 3, .inl (fun j => nI (E j)))), (a22, .inl (cI, 58, .inl nw)), (a24, .inl (cI, 2900, .inl hh)), (a27, .inl (cB, 4000, .inl f)), (a40, .inl (cI, 12, .inl sp)), (a45, .inl (cI, 64, .inl rt)), (a48, .inl (cI, 2, .inl cu)), (a49, .inl (cI, 16, .inl spt)), (a51, .inl (cI, 13, .inl (fun j => nI (mv j)))), (h0, .inr (9, [.ref a0, .ref a1, .ref a2, .ref a3, .ref a4, .ref a5, .ref a6, .ref a7, .ref a8, .ref a9, .ref a10, .int ld, .ref a12, .ref a13, .ref a14, .ref a15, .ref a16, .ref a17, .ref a18, .ref a19, .ref a20, .ref a21, .ref a22, .ref a23, .ref a24, .int (nI dn), .int mo, .ref a27, .int (nI tz), .int fk, .int fp, .int so, .int (nI bg), .int (nI ten), .long wd, .int (nI tk), .int sd, .int nb, .int np, .int pli, .ref a40, .int rc, .int rR, .int rW, .int rX, .ref a45, .int (nI rs), .int cm, .ref a48, .ref a49, .int (nI sno), .ref a51])), (a0, .inl (cI, 3, .inl (fun j => nI (C j)))), (a23, .inl (cI, 58, .inl mf))] ++ w9) H := hP
    have hD : va_D A ([(a1, .inl (cI, 9, .inl (fun j => nI (Mn j)))), (a2, .inl (cI, 108, .inl kd)), (a3, .inl (cI, 108, .inl cl)), (a4, .inl (cI, 108, .inl rg)), (a5, .inl (cI, 108, .inl uv1)), (a6, .inl (cI, 108, .inl ui1)), (a7, .inl (cI, 108, .inl uv2)), (a8, .inl (cI, 108, .inl ui2)), (a9, .inl (cI, 108, .inl sk)), (a10, .inl (cI, 12, .inl ci)), (a12, .inl (cI, 522000, .inl sf)), (a13, .inl (cI, 9000, .inl fr)), (a14, .inl (cI, 9000, .inl bf)), (a15, .inl (cI, 9000, .inl nf)), (a16, .inl (cI, 12288, .inl hf)), (a17, .inl (cI, 3, .inl (fun j => nI (S j)))), (a18, .inl (cZ, 3, .inl ff)), (a19, .inl (cZ, 3, .inl df)), (a20, .inl (cI, 9000, .inl en)), (a21, .inl (cI, 3, .inl (fun j => nI (E j)))), (a22, .inl (cI, 58, .inl nw)), (a24, .inl (cI, 2900, .inl hh)), (a27, .inl (cB, 4000, .inl f)), (a40, .inl (cI, 12, .inl sp)), (a45, .inl (cI, 64, .inl rt)), (a48, .inl (cI, 2, .inl cu)), (a49, .inl (cI, 16, .inl spt)), (a51, .inl (cI, 13, .inl (fun j => nI (mv j)))), (h0, .inr (9, [.ref a0, .ref a1, .ref a2, .ref a3, .ref a4, .ref a5, .ref a6, .ref a7, .ref a8, .ref a9, .ref a10, .int ld, .ref a12, .ref a13, .ref a14, .ref a15, .ref a16, .ref a17, .ref a18, .ref a19, .ref a20, .ref a21, .ref a22, .ref a23, .ref a24, .int (nI dn), .int mo, .ref a27, .int (nI tz), .int fk, .int fp, .int so, .int (nI bg), .int (nI ten), .long wd, .int (nI tk), .int sd, .int nb, .int np, .int pli, .ref a40, .int rc, .int rR, .int rW, .int rX, .ref a45, .int (nI rs), .int cm, .ref a48, .ref a49, .int (nI sno), .ref a51])), (a0, .inl (cI, 3, .inl (fun j => nI (C j)))), (a23, .inl (cI, 58, .inl mf))] ++ w9) := hD
    refine W.widen (k := kc) (n := ns) (Nat.le_refl _) (Nat.le_refl _) ?_
    have hP := gq_subP (X' := [(h0, .inr (9, [.ref a0, .ref a1, .ref a2, .ref a3, .ref a4, .ref a5, .ref a6, .ref a7, .ref a8, .ref a9, .ref a10, .int ld, .ref a12, .ref a13, .ref a14, .ref a15, .ref a16, .ref a17, .ref a18, .ref a19, .ref a20, .ref a21, .ref a22, .ref a23, .ref a24, .int (nI dn), .int mo, .ref a27, .int (nI tz), .int fk, .int fp, .int so, .int (nI bg), .int (nI ten), .long wd, .int (nI tk), .int sd, .int nb, .int np, .int pli, .ref a40, .int rc, .int rR, .int rW, .int rX, .ref a45, .int (nI rs), .int cm, .ref a48, .ref a49, .int (nI sno), .ref a51])), (a0, .inl (cI, 3, .inl (fun j => nI (C j)))), (a1, .inl (cI, 9, .inl (fun j => nI (Mn j)))), (a2, .inl (cI, 108, .inl kd)), (a3, .inl (cI, 108, .inl cl)), (a4, .inl (cI, 108, .inl rg)), (a5, .inl (cI, 108, .inl uv1)), (a6, .inl (cI, 108, .inl ui1)), (a7, .inl (cI, 108, .inl uv2)), (a8, .inl (cI, 108, .inl ui2)), (a9, .inl (cI, 108, .inl sk)), (a10, .inl (cI, 12, .inl ci)), (a12, .inl (cI, 522000, .inl sf)), (a13, .inl (cI, 9000, .inl fr)), (a14, .inl (cI, 9000, .inl bf)), (a15, .inl (cI, 9000, .inl nf)), (a16, .inl (cI, 12288, .inl hf)), (a17, .inl (cI, 3, .inl (fun j => nI (S j)))), (a18, .inl (cZ, 3, .inl ff)), (a19, .inl (cZ, 3, .inl df)), (a20, .inl (cI, 9000, .inl en)), (a21, .inl (cI, 3, .inl (fun j => nI (E j)))), (a22, .inl (cI, 58, .inl nw)), (a23, .inl (cI, 58, .inl mf)), (a24, .inl (cI, 2900, .inl hh)), (a27, .inl (cB, 4000, .inl f)), (a40, .inl (cI, 12, .inl sp)), (a45, .inl (cI, 64, .inl rt)), (a48, .inl (cI, 2, .inl cu)), (a49, .inl (cI, 16, .inl spt)), (a51, .inl (cI, 13, .inl (fun j => nI (mv j))))]) hP [28, 29, 0, 1, 2, 3, 4, 5, 6, 7, 8, 9, 10, 11, 12, 13, 14, 15, 16, 17, 18, 19, 20, 30, 21, 22, 23, 24, 25, 26, 27] rfl
    have hD := gq_subD (X' := [(h0, .inr (9, [.ref a0, .ref a1, .ref a2, .ref a3, .ref a4, .ref a5, .ref a6, .ref a7, .ref a8, .ref a9, .ref a10, .int ld, .ref a12, .ref a13, .ref a14, .ref a15, .ref a16, .ref a17, .ref a18, .ref a19, .ref a20, .ref a21, .ref a22, .ref a23, .ref a24, .int (nI dn), .int mo, .ref a27, .int (nI tz), .int fk, .int fp, .int so, .int (nI bg), .int (nI ten), .long wd, .int (nI tk), .int sd, .int nb, .int np, .int pli, .ref a40, .int rc, .int rR, .int rW, .int rX, .ref a45, .int (nI rs), .int cm, .ref a48, .ref a49, .int (nI sno), .ref a51])), (a0, .inl (cI, 3, .inl (fun j => nI (C j)))), (a1, .inl (cI, 9, .inl (fun j => nI (Mn j)))), (a2, .inl (cI, 108, .inl kd)), (a3, .inl (cI, 108, .inl cl)), (a4, .inl (cI, 108, .inl rg)), (a5, .inl (cI, 108, .inl uv1)), (a6, .inl (cI, 108, .inl ui1)), (a7, .inl (cI, 108, .inl uv2)), (a8, .inl (cI, 108, .inl ui2)), (a9, .inl (cI, 108, .inl sk)), (a10, .inl (cI, 12, .inl ci)), (a12, .inl (cI, 522000, .inl sf)), (a13, .inl (cI, 9000, .inl fr)), (a14, .inl (cI, 9000, .inl bf)), (a15, .inl (cI, 9000, .inl nf)), (a16, .inl (cI, 12288, .inl hf)), (a17, .inl (cI, 3, .inl (fun j => nI (S j)))), (a18, .inl (cZ, 3, .inl ff)), (a19, .inl (cZ, 3, .inl df)), (a20, .inl (cI, 9000, .inl en)), (a21, .inl (cI, 3, .inl (fun j => nI (E j)))), (a22, .inl (cI, 58, .inl nw)), (a23, .inl (cI, 58, .inl mf)), (a24, .inl (cI, 2900, .inl hh)), (a27, .inl (cB, 4000, .inl f)), (a40, .inl (cI, 12, .inl sp)), (a45, .inl (cI, 64, .inl rt)), (a48, .inl (cI, 2, .inl cu)), (a49, .inl (cI, 16, .inl spt)), (a51, .inl (cI, 13, .inl (fun j => nI (mv j))))]) hD [28, 29, 0, 1, 2, 3, 4, 5, 6, 7, 8, 9, 10, 11, 12, 13, 14, 15, 16, 17, 18, 19, 20, 30, 21, 22, 23, 24, 25, 26, 27] (by decide) rfl
    exact kk e_2 _ H locs (ModelI_mk cI cB cZ h0 tz f fp ld nc L cf pf vst vk vm vd a0 a1 a2 a3 a4 a5 a6 a7 a8 a9 a10 a12 a13 a14 a15 a16 a17 a18 a19 a20 a21 a22 a23 a24 a27 a40 a45 a48 a49 a51 C Mn kd cl rg uv1 ui1 uv2 ui2 sk ci sf fr bf nf hf S ff df en E nw mf hh sp rt cu spt mv dn mo fk so bg ten wd tk sd nb np pli rc rR rW rX rs cm sno htp hB hMo hAn hrs hcm hMP hMH) trivial hP hD hS
set_option maxHeartbeats 4000000 in
set_option maxRecDepth 100000 in
theorem md_outcomes {p : Program} {l : Launch} {e : Env} {s : State} {m : MethodId} {below : List Frame} {meth : Method} {c : Code} {b : Nat} {A : Nat → Prop} {Q : State → Prop} {D : va_G} {cI cB cZ : ClassId} {K : gKS} (G : gL p s m c b A D cI cB cZ K) {H : Heap} {locs : List Loc} {ls : Array Slot} {w8 w9 : va_W} {h0 tz kc ns tz9 : Nat} {f f9 : Nat → Int32} {fp ld fp9 ld9 : Int32} {nc nc9 : Nat} {L L9 : Nat → Nat} {cf cf9 : Nat → Int32} {pf pf9 : Nat → Int32} {vst vst9 : Int32} {vk vk9 : Nat} {vm vm9 : Int32} {vd vd9 : Nat → Int32} (hkb : kc ≤ 20000 ∧ ns ≤ 2000000) (hH : ModelI cI cB cZ h0 w8 tz f fp ld nc L cf pf vst vk vm vd) (hP : va_P D vwCl (w8 ++ w9) H) (hD : va_D A (w8 ++ w9)) (hS : va_S A s.heap H locs) (hl : ls.size = 4 ∧ True) (z1 : Int32) (r8 : Int32) (hR : tz = tz9 ∧ f = f9 ∧ fp = fp9 ∧ ld = ld9 ∧ nc = nc9 ∧ L = L9 ∧ cf = cf9 ∧ pf = pf9 ∧ vst = vst9 ∧ vk = vk9 ∧ vm = vm9 ∧ vd = vd9) (kk : ∀ (r : Int32) (w8' : va_W) (H1 : Heap) (locs1 : List Loc), ModelI cI cB cZ h0 w8' tz9 f9 fp9 ld9 nc9 L9 cf9 pf9 vst9 vk9 vm9 vd9 → (True) → va_P D vwCl (w8' ++ w9) H1 → va_D A (w8' ++ w9) → va_S A s.heap H1 locs1 → W p l e room_1 s m #[Value.ref b] below meth c H1 locs1 kc ns Q (F0 m 487 ls [.int r])) : W p l e room_1 s m #[Value.ref b] below meth c H locs kc ns Q (F0 m 484 ls [.int z1, .ref h0]) := by
  obtain ⟨hx, hb, hml, hown, hts, hA, hK, hN, hE⟩ := G
  unfold ModelI at hH
  obtain ⟨a0, hH⟩ := hH
  obtain ⟨a1, hH⟩ := hH
  obtain ⟨a2, hH⟩ := hH
  obtain ⟨a3, hH⟩ := hH
  obtain ⟨a4, hH⟩ := hH
  obtain ⟨a5, hH⟩ := hH
  obtain ⟨a6, hH⟩ := hH
  obtain ⟨a7, hH⟩ := hH
  obtain ⟨a8, hH⟩ := hH
  obtain ⟨a9, hH⟩ := hH
  obtain ⟨a10, hH⟩ := hH
  obtain ⟨a12, hH⟩ := hH
  obtain ⟨a13, hH⟩ := hH
  obtain ⟨a14, hH⟩ := hH
  obtain ⟨a15, hH⟩ := hH
  obtain ⟨a16, hH⟩ := hH
  obtain ⟨a17, hH⟩ := hH
  obtain ⟨a18, hH⟩ := hH
  obtain ⟨a19, hH⟩ := hH
  obtain ⟨a20, hH⟩ := hH
  obtain ⟨a21, hH⟩ := hH
  obtain ⟨a22, hH⟩ := hH
  obtain ⟨a23, hH⟩ := hH
  obtain ⟨a24, hH⟩ := hH
  obtain ⟨a27, hH⟩ := hH
  obtain ⟨a40, hH⟩ := hH
  obtain ⟨a45, hH⟩ := hH
  obtain ⟨a48, hH⟩ := hH
  obtain ⟨a49, hH⟩ := hH
  obtain ⟨a51, hH⟩ := hH
  obtain ⟨C, hH⟩ := hH
  obtain ⟨Mn, hH⟩ := hH
  obtain ⟨kd, hH⟩ := hH
  obtain ⟨cl, hH⟩ := hH
  obtain ⟨rg, hH⟩ := hH
  obtain ⟨uv1, hH⟩ := hH
  obtain ⟨ui1, hH⟩ := hH
  obtain ⟨uv2, hH⟩ := hH
  obtain ⟨ui2, hH⟩ := hH
  obtain ⟨sk, hH⟩ := hH
  obtain ⟨ci, hH⟩ := hH
  obtain ⟨sf, hH⟩ := hH
  obtain ⟨fr, hH⟩ := hH
  obtain ⟨bf, hH⟩ := hH
  obtain ⟨nf, hH⟩ := hH
  obtain ⟨hf, hH⟩ := hH
  obtain ⟨S, hH⟩ := hH
  obtain ⟨ff, hH⟩ := hH
  obtain ⟨df, hH⟩ := hH
  obtain ⟨en, hH⟩ := hH
  obtain ⟨E, hH⟩ := hH
  obtain ⟨nw, hH⟩ := hH
  obtain ⟨mf, hH⟩ := hH
  obtain ⟨hh, hH⟩ := hH
  obtain ⟨sp, hH⟩ := hH
  obtain ⟨rt, hH⟩ := hH
  obtain ⟨cu, hH⟩ := hH
  obtain ⟨spt, hH⟩ := hH
  obtain ⟨mv, hH⟩ := hH
  obtain ⟨dn, hH⟩ := hH
  obtain ⟨mo, hH⟩ := hH
  obtain ⟨fk, hH⟩ := hH
  obtain ⟨so, hH⟩ := hH
  obtain ⟨bg, hH⟩ := hH
  obtain ⟨ten, hH⟩ := hH
  obtain ⟨wd, hH⟩ := hH
  obtain ⟨tk, hH⟩ := hH
  obtain ⟨sd, hH⟩ := hH
  obtain ⟨nb, hH⟩ := hH
  obtain ⟨np, hH⟩ := hH
  obtain ⟨pli, hH⟩ := hH
  obtain ⟨rc, hH⟩ := hH
  obtain ⟨rR, hH⟩ := hH
  obtain ⟨rW, hH⟩ := hH
  obtain ⟨rX, hH⟩ := hH
  obtain ⟨rs, hH⟩ := hH
  obtain ⟨cm, hH⟩ := hH
  obtain ⟨sno, hH⟩ := hH
  obtain ⟨htp, hH⟩ := hH
  obtain ⟨hB, hH⟩ := hH
  obtain ⟨hMo, hH⟩ := hH
  obtain ⟨hAn, hH⟩ := hH
  obtain ⟨hrs, hH⟩ := hH
  obtain ⟨hcm, hH⟩ := hH
  obtain ⟨hMP, hH⟩ := hH
  obtain ⟨hMH, hH⟩ := hH
  subst hH
  obtain ⟨e1, e2, e3, e4, e5, e6, e7, e8, e9, e10, e11, e12⟩ := id hR
  subst e1; subst e2; subst e3; subst e4; subst e5; subst e6; subst e7; subst e8; subst e9; subst e10; subst e11; subst e12
  refine gq_goi (wc := [(h0, .inr (9, [.ref a0, .ref a1, .ref a2, .ref a3, .ref a4, .ref a5, .ref a6, .ref a7, .ref a8, .ref a9, .ref a10, .int ld, .ref a12, .ref a13, .ref a14, .ref a15, .ref a16, .ref a17, .ref a18, .ref a19, .ref a20, .ref a21, .ref a22, .ref a23, .ref a24, .int (nI dn), .int mo, .ref a27, .int (nI tz), .int fk, .int fp, .int so, .int (nI bg), .int (nI ten), .long wd, .int (nI tk), .int sd, .int nb, .int np, .int pli, .ref a40, .int rc, .int rR, .int rW, .int rX, .ref a45, .int (nI rs), .int cm, .ref a48, .ref a49, .int (nI sno), .ref a51])), (a0, .inl (cI, 3, .inl (fun j => nI (C j)))), (a1, .inl (cI, 9, .inl (fun j => nI (Mn j)))), (a2, .inl (cI, 108, .inl kd)), (a3, .inl (cI, 108, .inl cl)), (a4, .inl (cI, 108, .inl rg)), (a5, .inl (cI, 108, .inl uv1)), (a6, .inl (cI, 108, .inl ui1)), (a7, .inl (cI, 108, .inl uv2)), (a8, .inl (cI, 108, .inl ui2)), (a9, .inl (cI, 108, .inl sk)), (a10, .inl (cI, 12, .inl ci)), (a12, .inl (cI, 522000, .inl sf)), (a13, .inl (cI, 9000, .inl fr)), (a14, .inl (cI, 9000, .inl bf)), (a15, .inl (cI, 9000, .inl nf)), (a16, .inl (cI, 12288, .inl hf)), (a17, .inl (cI, 3, .inl (fun j => nI (S j)))), (a18, .inl (cZ, 3, .inl ff)), (a19, .inl (cZ, 3, .inl df)), (a20, .inl (cI, 9000, .inl en)), (a21, .inl (cI, 3, .inl (fun j => nI (E j)))), (a22, .inl (cI, 58, .inl nw))]) (wr := [(a23, .inl (cI, 58, .inl mf)), (a24, .inl (cI, 2900, .inl hh)), (a27, .inl (cB, 4000, .inl f)), (a40, .inl (cI, 12, .inl sp)), (a45, .inl (cI, 64, .inl rt)), (a48, .inl (cI, 2, .inl cu)), (a49, .inl (cI, 16, .inl spt)), (a51, .inl (cI, 13, .inl (fun j => nI (mv j))))]) (va_runV (As := [.int z1]) (rest := []) ⟨hx, hb, hml, hown, hts⟩ (c_outcomes9 l D cI cB cZ h0 a0 a1 a2 a3 a4 a5 a6 a7 a8 a9 a10 a12 a13 a14 a15 a16 a17 a22 a18 a19 a20 a21 (.ref a23) (.ref a24) (.int (nI dn)) (.int mo) (.ref a27) (.int (nI tz)) (.int fk) (.int fp) (.int so) (.int (nI bg)) (.int (nI ten)) (.long wd) (.int (nI tk)) (.int sd) (.int nb) (.int np) (.int pli) (.ref a40) (.int rc) (.int rR) (.int rW) (.int rX) (.ref a45) (.int (nI rs)) (.int cm) (.ref a48) (.ref a49) (.int (nI sno)) (.ref a51) ld C Mn kd cl rg uv1 ui1 uv2 ui2 sk ci sf fr bf nf hf S ff df en E nw z1 hB.1 hB.2.1 hB.2.2.2 hAn _) (cwV 1 hts gP_law__c_outcomes9 rfl rfl rfl (by decide +kernel) ⟨Nat.le_of_ble_eq_true rfl, Nat.le_of_ble_eq_true rfl⟩) (gx_preV (ci := 9) (q0 := 0) hK gN.nil (gq_Pl hP) (gq_Dl hD) [0, 1, 2, 3, 4, 5, 6, 7, 8, 9, 10, 11, 12, 13, 14, 15, 16, 17, 18, 19, 20, 21, 22] rfl rfl rfl rfl) rfl rfl hl.1 rfl (lv_room (Nat.le_of_ble_eq_true rfl)) dL_law_484 ⟨(Nat.le_trans (Nat.add_le_add_right hkb.1 _) (Nat.le_of_ble_eq_true rfl)), (Nat.le_trans (Nat.add_le_add_right hkb.2 _) (Nat.le_of_ble_eq_true rfl))⟩) hP hD hS hA [0, 1, 2, 3, 4, 5, 6, 7, 8, 9, 10, 11, 12, 13, 14, 15, 16, 17, 18, 19, 20, 21, 22] [23, 24, 25, 26, 27, 28, 29, 30] rfl rfl rfl (by decide) (fun r1 w1 H locs hp hP hD hS => ?_)
  obtain ⟨e_1, hp⟩ := hp
  obtain ⟨e_2, hp⟩ := hp
  obtain ⟨e_3, hp⟩ := hp
  obtain ⟨e_4, hp⟩ := hp
  obtain ⟨e_5, hp⟩ := hp
  obtain ⟨e_6, hp⟩ := hp
  obtain ⟨e_7, hp⟩ := hp
  obtain ⟨e_8, hp⟩ := hp
  obtain ⟨e_9, hp⟩ := hp
  obtain ⟨e_10, hp⟩ := hp
  obtain ⟨e_11, hp⟩ := hp
  obtain ⟨e_12, hp⟩ := hp
  obtain ⟨hq_13, hp⟩ := hp
  obtain ⟨h9, hp⟩ := hp
  subst hp
  have h9 := h9.symm
  subst h9
  have hq_13 : ∀ t, t < 2 → gA9 t e_9 e_7 e_11 e_3 e_10 := hq_13
  have hP : va_P D vwCl ([(a23, .inl (cI, 58, .inl mf)), (a24, .inl (cI, 2900, .inl hh)), (a27, .inl (cB, 4000, .inl f)), (a40, .inl (cI, 12, .inl sp)), (a45, .inl (cI, 64, .inl rt)), (a48, .inl (cI, 2, .inl cu)), (a49, .inl (cI, 16, .inl spt)), (a51, .inl (cI, 13, .inl (fun j => nI (mv j)))), (h0, .inr (9, [.ref a0, .ref a1, .ref a2, .ref a3, .ref a4, .ref a5, .ref a6, .ref a7, .ref a8, .ref a9, .ref a10, .int ld, .ref a12, .ref a13, .ref a14, .ref a15, .ref a16, .ref a17, .ref a18, .ref a19, .ref a20, .ref a21, .ref a22, .ref a23, .ref a24, .int (nI dn), .int mo, .ref a27, .int (nI tz), .int fk, .int fp, .int so, .int (nI bg), .int (nI ten), .long wd, .int (nI tk), .int sd, .int nb, .int np, .int pli, .ref a40, .int rc, .int rR, .int rW, .int rX, .ref a45, .int (nI rs), .int cm, .ref a48, .ref a49, .int (nI sno), .ref a51])), (a0, .inl (cI, 3, .inl (fun j => nI (C j)))), (a1, .inl (cI, 9, .inl (fun j => nI (Mn j)))), (a2, .inl (cI, 108, .inl kd)), (a3, .inl (cI, 108, .inl cl)), (a4, .inl (cI, 108, .inl rg)), (a5, .inl (cI, 108, .inl uv1)), (a6, .inl (cI, 108, .inl ui1)), (a7, .inl (cI, 108, .inl uv2)), (a8, .inl (cI, 108, .inl ui2)), (a9, .inl (cI, 108, .inl sk)), (a10, .inl (cI, 12, .inl ci)), (a12, .inl (cI, 522000, .inl e_2)), (a13, .inl (cI, 9000, .inl e_3)), (a14, .inl (cI, 9000, .inl e_4)), (a15, .inl (cI, 9000, .inl e_5)), (a16, .inl (cI, 12288, .inl e_6)), (a17, .inl (cI, 3, .inl (fun j => nI (e_7 j)))), (a18, .inl (cZ, 3, .inl e_8)), (a19, .inl (cZ, 3, .inl e_9)), (a20, .inl (cI, 9000, .inl e_10)), (a21, .inl (cI, 3, .inl (fun j => nI (e_11 j)))), (a22, .inl (cI, 58, .inl e_12))] ++ w9) H := hP
  have hD : va_D A ([(a23, .inl (cI, 58, .inl mf)), (a24, .inl (cI, 2900, .inl hh)), (a27, .inl (cB, 4000, .inl f)), (a40, .inl (cI, 12, .inl sp)), (a45, .inl (cI, 64, .inl rt)), (a48, .inl (cI, 2, .inl cu)), (a49, .inl (cI, 16, .inl spt)), (a51, .inl (cI, 13, .inl (fun j => nI (mv j)))), (h0, .inr (9, [.ref a0, .ref a1, .ref a2, .ref a3, .ref a4, .ref a5, .ref a6, .ref a7, .ref a8, .ref a9, .ref a10, .int ld, .ref a12, .ref a13, .ref a14, .ref a15, .ref a16, .ref a17, .ref a18, .ref a19, .ref a20, .ref a21, .ref a22, .ref a23, .ref a24, .int (nI dn), .int mo, .ref a27, .int (nI tz), .int fk, .int fp, .int so, .int (nI bg), .int (nI ten), .long wd, .int (nI tk), .int sd, .int nb, .int np, .int pli, .ref a40, .int rc, .int rR, .int rW, .int rX, .ref a45, .int (nI rs), .int cm, .ref a48, .ref a49, .int (nI sno), .ref a51])), (a0, .inl (cI, 3, .inl (fun j => nI (C j)))), (a1, .inl (cI, 9, .inl (fun j => nI (Mn j)))), (a2, .inl (cI, 108, .inl kd)), (a3, .inl (cI, 108, .inl cl)), (a4, .inl (cI, 108, .inl rg)), (a5, .inl (cI, 108, .inl uv1)), (a6, .inl (cI, 108, .inl ui1)), (a7, .inl (cI, 108, .inl uv2)), (a8, .inl (cI, 108, .inl ui2)), (a9, .inl (cI, 108, .inl sk)), (a10, .inl (cI, 12, .inl ci)), (a12, .inl (cI, 522000, .inl e_2)), (a13, .inl (cI, 9000, .inl e_3)), (a14, .inl (cI, 9000, .inl e_4)), (a15, .inl (cI, 9000, .inl e_5)), (a16, .inl (cI, 12288, .inl e_6)), (a17, .inl (cI, 3, .inl (fun j => nI (e_7 j)))), (a18, .inl (cZ, 3, .inl e_8)), (a19, .inl (cZ, 3, .inl e_9)), (a20, .inl (cI, 9000, .inl e_10)), (a21, .inl (cI, 3, .inl (fun j => nI (e_11 j)))), (a22, .inl (cI, 58, .inl e_12))] ++ w9) := hD
  refine W.widen (k := kc) (n := ns) (Nat.le_refl _) (Nat.le_refl _) ?_
  have hP := gq_subP (X' := [(h0, .inr (9, [.ref a0, .ref a1, .ref a2, .ref a3, .ref a4, .ref a5, .ref a6, .ref a7, .ref a8, .ref a9, .ref a10, .int ld, .ref a12, .ref a13, .ref a14, .ref a15, .ref a16, .ref a17, .ref a18, .ref a19, .ref a20, .ref a21, .ref a22, .ref a23, .ref a24, .int (nI dn), .int mo, .ref a27, .int (nI tz), .int fk, .int fp, .int so, .int (nI bg), .int (nI ten), .long wd, .int (nI tk), .int sd, .int nb, .int np, .int pli, .ref a40, .int rc, .int rR, .int rW, .int rX, .ref a45, .int (nI rs), .int cm, .ref a48, .ref a49, .int (nI sno), .ref a51])), (a0, .inl (cI, 3, .inl (fun j => nI (C j)))), (a1, .inl (cI, 9, .inl (fun j => nI (Mn j)))), (a2, .inl (cI, 108, .inl kd)), (a3, .inl (cI, 108, .inl cl)), (a4, .inl (cI, 108, .inl rg)), (a5, .inl (cI, 108, .inl uv1)), (a6, .inl (cI, 108, .inl ui1)), (a7, .inl (cI, 108, .inl uv2)), (a8, .inl (cI, 108, .inl ui2)), (a9, .inl (cI, 108, .inl sk)), (a10, .inl (cI, 12, .inl ci)), (a12, .inl (cI, 522000, .inl e_2)), (a13, .inl (cI, 9000, .inl e_3)), (a14, .inl (cI, 9000, .inl e_4)), (a15, .inl (cI, 9000, .inl e_5)), (a16, .inl (cI, 12288, .inl e_6)), (a17, .inl (cI, 3, .inl (fun j => nI (e_7 j)))), (a18, .inl (cZ, 3, .inl e_8)), (a19, .inl (cZ, 3, .inl e_9)), (a20, .inl (cI, 9000, .inl e_10)), (a21, .inl (cI, 3, .inl (fun j => nI (e_11 j)))), (a22, .inl (cI, 58, .inl e_12)), (a23, .inl (cI, 58, .inl mf)), (a24, .inl (cI, 2900, .inl hh)), (a27, .inl (cB, 4000, .inl f)), (a40, .inl (cI, 12, .inl sp)), (a45, .inl (cI, 64, .inl rt)), (a48, .inl (cI, 2, .inl cu)), (a49, .inl (cI, 16, .inl spt)), (a51, .inl (cI, 13, .inl (fun j => nI (mv j))))]) hP [8, 9, 10, 11, 12, 13, 14, 15, 16, 17, 18, 19, 20, 21, 22, 23, 24, 25, 26, 27, 28, 29, 30, 0, 1, 2, 3, 4, 5, 6, 7] rfl
  have hD := gq_subD (X' := [(h0, .inr (9, [.ref a0, .ref a1, .ref a2, .ref a3, .ref a4, .ref a5, .ref a6, .ref a7, .ref a8, .ref a9, .ref a10, .int ld, .ref a12, .ref a13, .ref a14, .ref a15, .ref a16, .ref a17, .ref a18, .ref a19, .ref a20, .ref a21, .ref a22, .ref a23, .ref a24, .int (nI dn), .int mo, .ref a27, .int (nI tz), .int fk, .int fp, .int so, .int (nI bg), .int (nI ten), .long wd, .int (nI tk), .int sd, .int nb, .int np, .int pli, .ref a40, .int rc, .int rR, .int rW, .int rX, .ref a45, .int (nI rs), .int cm, .ref a48, .ref a49, .int (nI sno), .ref a51])), (a0, .inl (cI, 3, .inl (fun j => nI (C j)))), (a1, .inl (cI, 9, .inl (fun j => nI (Mn j)))), (a2, .inl (cI, 108, .inl kd)), (a3, .inl (cI, 108, .inl cl)), (a4, .inl (cI, 108, .inl rg)), (a5, .inl (cI, 108, .inl uv1)), (a6, .inl (cI, 108, .inl ui1)), (a7, .inl (cI, 108, .inl uv2)), (a8, .inl (cI, 108, .inl ui2)), (a9, .inl (cI, 108, .inl sk)), (a10, .inl (cI, 12, .inl ci)), (a12, .inl (cI, 522000, .inl e_2)), (a13, .inl (cI, 9000, .inl e_3)), (a14, .inl (cI, 9000, .inl e_4)), (a15, .inl (cI, 9000, .inl e_5)), (a16, .inl (cI, 12288, .inl e_6)), (a17, .inl (cI, 3, .inl (fun j => nI (e_7 j)))), (a18, .inl (cZ, 3, .inl e_8)), (a19, .inl (cZ, 3, .inl e_9)), (a20, .inl (cI, 9000, .inl e_10)), (a21, .inl (cI, 3, .inl (fun j => nI (e_11 j)))), (a22, .inl (cI, 58, .inl e_12)), (a23, .inl (cI, 58, .inl mf)), (a24, .inl (cI, 2900, .inl hh)), (a27, .inl (cB, 4000, .inl f)), (a40, .inl (cI, 12, .inl sp)), (a45, .inl (cI, 64, .inl rt)), (a48, .inl (cI, 2, .inl cu)), (a49, .inl (cI, 16, .inl spt)), (a51, .inl (cI, 13, .inl (fun j => nI (mv j))))]) hD [8, 9, 10, 11, 12, 13, 14, 15, 16, 17, 18, 19, 20, 21, 22, 23, 24, 25, 26, 27, 28, 29, 30, 0, 1, 2, 3, 4, 5, 6, 7] (by decide) rfl
  exact kk e_1 _ H locs (ModelI_mk cI cB cZ h0 tz f fp ld nc L cf pf vst vk vm vd a0 a1 a2 a3 a4 a5 a6 a7 a8 a9 a10 a12 a13 a14 a15 a16 a17 a18 a19 a20 a21 a22 a23 a24 a27 a40 a45 a48 a49 a51 C Mn kd cl rg uv1 ui1 uv2 ui2 sk ci e_2 e_3 e_4 e_5 e_6 e_7 e_8 e_9 e_10 e_11 e_12 mf hh sp rt cu spt mv dn mo fk so bg ten wd tk sd nb np pli rc rR rW rX rs cm sno htp hB hMo hq_13 hrs hcm hMP hMH) trivial hP hD hS
set_option maxHeartbeats 4000000 in
set_option maxRecDepth 100000 in
theorem md_outcome {p : Program} {l : Launch} {e : Env} {s : State} {m : MethodId} {below : List Frame} {meth : Method} {c : Code} {b : Nat} {A : Nat → Prop} {Q : State → Prop} {D : va_G} {cI cB cZ : ClassId} {K : gKS} (G : gL p s m c b A D cI cB cZ K) {H : Heap} {locs : List Loc} {ls : Array Slot} {w8 w9 : va_W} {h0 tz kc ns tz9 : Nat} {f f9 : Nat → Int32} {fp ld fp9 ld9 : Int32} {nc nc9 : Nat} {L L9 : Nat → Nat} {cf cf9 : Nat → Int32} {pf pf9 : Nat → Int32} {vst vst9 : Int32} {vk vk9 : Nat} {vm vm9 : Int32} {vd vd9 : Nat → Int32} (hkb : kc ≤ 20000 ∧ ns ≤ 2000000) (hH : ModelI cI cB cZ h0 w8 tz f fp ld nc L cf pf vst vk vm vd) (hP : va_P D vwCl (w8 ++ w9) H) (hD : va_D A (w8 ++ w9)) (hS : va_S A s.heap H locs) (hl : ls.size = 4 ∧ True) (z1 : Int32) (z2 : Int32) (z3 : Int32) (r8 : Int32) (hR : tz = tz9 ∧ f = f9 ∧ fp = fp9 ∧ ld = ld9 ∧ nc = nc9 ∧ L = L9 ∧ cf = cf9 ∧ pf = pf9 ∧ vst = vst9 ∧ vk = vk9 ∧ vm = vm9 ∧ vd = vd9) (kk : ∀ (r : Int32) (w8' : va_W) (H1 : Heap) (locs1 : List Loc), ModelI cI cB cZ h0 w8' tz9 f9 fp9 ld9 nc9 L9 cf9 pf9 vst9 vk9 vm9 vd9 → (True) → va_P D vwCl (w8' ++ w9) H1 → va_D A (w8' ++ w9) → va_S A s.heap H1 locs1 → W p l e room_1 s m #[Value.ref b] below meth c H1 locs1 kc ns Q (F0 m 530 ls [.int r])) : W p l e room_1 s m #[Value.ref b] below meth c H locs kc ns Q (F0 m 527 ls [.int z3, .int z2, .int z1, .ref h0]) := by
  obtain ⟨hx, hb, hml, hown, hts, hA, hK, hN, hE⟩ := G
  unfold ModelI at hH
  obtain ⟨a0, hH⟩ := hH
  obtain ⟨a1, hH⟩ := hH
  obtain ⟨a2, hH⟩ := hH
  obtain ⟨a3, hH⟩ := hH
  obtain ⟨a4, hH⟩ := hH
  obtain ⟨a5, hH⟩ := hH
  obtain ⟨a6, hH⟩ := hH
  obtain ⟨a7, hH⟩ := hH
  obtain ⟨a8, hH⟩ := hH
  obtain ⟨a9, hH⟩ := hH
  obtain ⟨a10, hH⟩ := hH
  obtain ⟨a12, hH⟩ := hH
  obtain ⟨a13, hH⟩ := hH
  obtain ⟨a14, hH⟩ := hH
  obtain ⟨a15, hH⟩ := hH
  obtain ⟨a16, hH⟩ := hH
  obtain ⟨a17, hH⟩ := hH
  obtain ⟨a18, hH⟩ := hH
  obtain ⟨a19, hH⟩ := hH
  obtain ⟨a20, hH⟩ := hH
  obtain ⟨a21, hH⟩ := hH
  obtain ⟨a22, hH⟩ := hH
  obtain ⟨a23, hH⟩ := hH
  obtain ⟨a24, hH⟩ := hH
  obtain ⟨a27, hH⟩ := hH
  obtain ⟨a40, hH⟩ := hH
  obtain ⟨a45, hH⟩ := hH
  obtain ⟨a48, hH⟩ := hH
  obtain ⟨a49, hH⟩ := hH
  obtain ⟨a51, hH⟩ := hH
  obtain ⟨C, hH⟩ := hH
  obtain ⟨Mn, hH⟩ := hH
  obtain ⟨kd, hH⟩ := hH
  obtain ⟨cl, hH⟩ := hH
  obtain ⟨rg, hH⟩ := hH
  obtain ⟨uv1, hH⟩ := hH
  obtain ⟨ui1, hH⟩ := hH
  obtain ⟨uv2, hH⟩ := hH
  obtain ⟨ui2, hH⟩ := hH
  obtain ⟨sk, hH⟩ := hH
  obtain ⟨ci, hH⟩ := hH
  obtain ⟨sf, hH⟩ := hH
  obtain ⟨fr, hH⟩ := hH
  obtain ⟨bf, hH⟩ := hH
  obtain ⟨nf, hH⟩ := hH
  obtain ⟨hf, hH⟩ := hH
  obtain ⟨S, hH⟩ := hH
  obtain ⟨ff, hH⟩ := hH
  obtain ⟨df, hH⟩ := hH
  obtain ⟨en, hH⟩ := hH
  obtain ⟨E, hH⟩ := hH
  obtain ⟨nw, hH⟩ := hH
  obtain ⟨mf, hH⟩ := hH
  obtain ⟨hh, hH⟩ := hH
  obtain ⟨sp, hH⟩ := hH
  obtain ⟨rt, hH⟩ := hH
  obtain ⟨cu, hH⟩ := hH
  obtain ⟨spt, hH⟩ := hH
  obtain ⟨mv, hH⟩ := hH
  obtain ⟨dn, hH⟩ := hH
  obtain ⟨mo, hH⟩ := hH
  obtain ⟨fk, hH⟩ := hH
  obtain ⟨so, hH⟩ := hH
  obtain ⟨bg, hH⟩ := hH
  obtain ⟨ten, hH⟩ := hH
  obtain ⟨wd, hH⟩ := hH
  obtain ⟨tk, hH⟩ := hH
  obtain ⟨sd, hH⟩ := hH
  obtain ⟨nb, hH⟩ := hH
  obtain ⟨np, hH⟩ := hH
  obtain ⟨pli, hH⟩ := hH
  obtain ⟨rc, hH⟩ := hH
  obtain ⟨rR, hH⟩ := hH
  obtain ⟨rW, hH⟩ := hH
  obtain ⟨rX, hH⟩ := hH
  obtain ⟨rs, hH⟩ := hH
  obtain ⟨cm, hH⟩ := hH
  obtain ⟨sno, hH⟩ := hH
  obtain ⟨htp, hH⟩ := hH
  obtain ⟨hB, hH⟩ := hH
  obtain ⟨hMo, hH⟩ := hH
  obtain ⟨hAn, hH⟩ := hH
  obtain ⟨hrs, hH⟩ := hH
  obtain ⟨hcm, hH⟩ := hH
  obtain ⟨hMP, hH⟩ := hH
  obtain ⟨hMH, hH⟩ := hH
  subst hH
  obtain ⟨e1, e2, e3, e4, e5, e6, e7, e8, e9, e10, e11, e12⟩ := id hR
  subst e1; subst e2; subst e3; subst e4; subst e5; subst e6; subst e7; subst e8; subst e9; subst e10; subst e11; subst e12
  refine gq_goi (wc := [(h0, .inr (9, [.ref a0, .ref a1, .ref a2, .ref a3, .ref a4, .ref a5, .ref a6, .ref a7, .ref a8, .ref a9, .ref a10, .int ld, .ref a12, .ref a13, .ref a14, .ref a15, .ref a16, .ref a17, .ref a18, .ref a19, .ref a20, .ref a21, .ref a22, .ref a23, .ref a24, .int (nI dn), .int mo, .ref a27, .int (nI tz), .int fk, .int fp, .int so, .int (nI bg), .int (nI ten), .long wd, .int (nI tk), .int sd, .int nb, .int np, .int pli, .ref a40, .int rc, .int rR, .int rW, .int rX, .ref a45, .int (nI rs), .int cm, .ref a48, .ref a49, .int (nI sno), .ref a51])), (a0, .inl (cI, 3, .inl (fun j => nI (C j)))), (a1, .inl (cI, 9, .inl (fun j => nI (Mn j)))), (a2, .inl (cI, 108, .inl kd)), (a3, .inl (cI, 108, .inl cl)), (a4, .inl (cI, 108, .inl rg)), (a5, .inl (cI, 108, .inl uv1)), (a6, .inl (cI, 108, .inl ui1)), (a7, .inl (cI, 108, .inl uv2)), (a8, .inl (cI, 108, .inl ui2)), (a9, .inl (cI, 108, .inl sk)), (a10, .inl (cI, 12, .inl ci)), (a12, .inl (cI, 522000, .inl sf)), (a13, .inl (cI, 9000, .inl fr)), (a14, .inl (cI, 9000, .inl bf)), (a15, .inl (cI, 9000, .inl nf)), (a16, .inl (cI, 12288, .inl hf)), (a17, .inl (cI, 3, .inl (fun j => nI (S j)))), (a18, .inl (cZ, 3, .inl ff)), (a19, .inl (cZ, 3, .inl df)), (a20, .inl (cI, 9000, .inl en)), (a21, .inl (cI, 3, .inl (fun j => nI (E j)))), (a22, .inl (cI, 58, .inl nw))]) (wr := [(a23, .inl (cI, 58, .inl mf)), (a24, .inl (cI, 2900, .inl hh)), (a27, .inl (cB, 4000, .inl f)), (a40, .inl (cI, 12, .inl sp)), (a45, .inl (cI, 64, .inl rt)), (a48, .inl (cI, 2, .inl cu)), (a49, .inl (cI, 16, .inl spt)), (a51, .inl (cI, 13, .inl (fun j => nI (mv j))))]) (va_runV (As := [.int z1, .int z2, .int z3]) (rest := []) ⟨hx, hb, hml, hown, hts⟩ (c_outcome9 l D cI cB cZ h0 a0 a1 a2 a3 a4 a5 a6 a7 a8 a9 a10 a12 a13 a14 a15 a16 a17 a22 a18 a19 a20 a21 (.ref a23) (.ref a24) (.int (nI dn)) (.int mo) (.ref a27) (.int (nI tz)) (.int fk) (.int fp) (.int so) (.int (nI bg)) (.int (nI ten)) (.long wd) (.int (nI tk)) (.int sd) (.int nb) (.int np) (.int pli) (.ref a40) (.int rc) (.int rR) (.int rW) (.int rX) (.ref a45) (.int (nI rs)) (.int cm) (.ref a48) (.ref a49) (.int (nI sno)) (.ref a51) ld C Mn kd cl rg uv1 ui1 uv2 ui2 sk ci sf fr bf nf hf S ff df en E nw z1 z2 z3 hB.1 hB.2.1 hB.2.2.2 hAn _) (cwV 3 hts gP_law__c_outcome9 rfl rfl rfl (by decide +kernel) ⟨Nat.le_of_ble_eq_true rfl, Nat.le_of_ble_eq_true rfl⟩) (gx_preV (ci := 9) (q0 := 0) hK gN.nil (gq_Pl hP) (gq_Dl hD) [0, 1, 2, 3, 4, 5, 6, 7, 8, 9, 10, 11, 12, 13, 14, 15, 16, 17, 18, 19, 20, 21, 22] rfl rfl rfl rfl) rfl rfl hl.1 rfl (lv_room (Nat.le_of_ble_eq_true rfl)) dL_law_527 ⟨(Nat.le_trans (Nat.add_le_add_right hkb.1 _) (Nat.le_of_ble_eq_true rfl)), (Nat.le_trans (Nat.add_le_add_right hkb.2 _) (Nat.le_of_ble_eq_true rfl))⟩) hP hD hS hA [0, 1, 2, 3, 4, 5, 6, 7, 8, 9, 10, 11, 12, 13, 14, 15, 16, 17, 18, 19, 20, 21, 22] [23, 24, 25, 26, 27, 28, 29, 30] rfl rfl rfl (by decide) (fun r1 w1 H locs hp hP hD hS => ?_)
  obtain ⟨e_1, hp⟩ := hp
  obtain ⟨e_2, hp⟩ := hp
  obtain ⟨e_3, hp⟩ := hp
  obtain ⟨e_4, hp⟩ := hp
  obtain ⟨e_5, hp⟩ := hp
  obtain ⟨e_6, hp⟩ := hp
  obtain ⟨e_7, hp⟩ := hp
  obtain ⟨e_8, hp⟩ := hp
  obtain ⟨e_9, hp⟩ := hp
  obtain ⟨e_10, hp⟩ := hp
  obtain ⟨e_11, hp⟩ := hp
  obtain ⟨e_12, hp⟩ := hp
  obtain ⟨hq_13, hp⟩ := hp
  obtain ⟨h9, hp⟩ := hp
  subst hp
  have h9 := h9.symm
  subst h9
  have hq_13 : ∀ t, t < 2 → gA9 t e_9 e_7 e_11 e_3 e_10 := hq_13
  have hP : va_P D vwCl ([(a23, .inl (cI, 58, .inl mf)), (a24, .inl (cI, 2900, .inl hh)), (a27, .inl (cB, 4000, .inl f)), (a40, .inl (cI, 12, .inl sp)), (a45, .inl (cI, 64, .inl rt)), (a48, .inl (cI, 2, .inl cu)), (a49, .inl (cI, 16, .inl spt)), (a51, .inl (cI, 13, .inl (fun j => nI (mv j)))), (h0, .inr (9, [.ref a0, .ref a1, .ref a2, .ref a3, .ref a4, .ref a5, .ref a6, .ref a7, .ref a8, .ref a9, .ref a10, .int ld, .ref a12, .ref a13, .ref a14, .ref a15, .ref a16, .ref a17, .ref a18, .ref a19, .ref a20, .ref a21, .ref a22, .ref a23, .ref a24, .int (nI dn), .int mo, .ref a27, .int (nI tz), .int fk, .int fp, .int so, .int (nI bg), .int (nI ten), .long wd, .int (nI tk), .int sd, .int nb, .int np, .int pli, .ref a40, .int rc, .int rR, .int rW, .int rX, .ref a45, .int (nI rs), .int cm, .ref a48, .ref a49, .int (nI sno), .ref a51])), (a0, .inl (cI, 3, .inl (fun j => nI (C j)))), (a1, .inl (cI, 9, .inl (fun j => nI (Mn j)))), (a2, .inl (cI, 108, .inl kd)), (a3, .inl (cI, 108, .inl cl)), (a4, .inl (cI, 108, .inl rg)), (a5, .inl (cI, 108, .inl uv1)), (a6, .inl (cI, 108, .inl ui1)), (a7, .inl (cI, 108, .inl uv2)), (a8, .inl (cI, 108, .inl ui2)), (a9, .inl (cI, 108, .inl sk)), (a10, .inl (cI, 12, .inl ci)), (a12, .inl (cI, 522000, .inl e_2)), (a13, .inl (cI, 9000, .inl e_3)), (a14, .inl (cI, 9000, .inl e_4)), (a15, .inl (cI, 9000, .inl e_5)), (a16, .inl (cI, 12288, .inl e_6)), (a17, .inl (cI, 3, .inl (fun j => nI (e_7 j)))), (a18, .inl (cZ, 3, .inl e_8)), (a19, .inl (cZ, 3, .inl e_9)), (a20, .inl (cI, 9000, .inl e_10)), (a21, .inl (cI, 3, .inl (fun j => nI (e_11 j)))), (a22, .inl (cI, 58, .inl e_12))] ++ w9) H := hP
  have hD : va_D A ([(a23, .inl (cI, 58, .inl mf)), (a24, .inl (cI, 2900, .inl hh)), (a27, .inl (cB, 4000, .inl f)), (a40, .inl (cI, 12, .inl sp)), (a45, .inl (cI, 64, .inl rt)), (a48, .inl (cI, 2, .inl cu)), (a49, .inl (cI, 16, .inl spt)), (a51, .inl (cI, 13, .inl (fun j => nI (mv j)))), (h0, .inr (9, [.ref a0, .ref a1, .ref a2, .ref a3, .ref a4, .ref a5, .ref a6, .ref a7, .ref a8, .ref a9, .ref a10, .int ld, .ref a12, .ref a13, .ref a14, .ref a15, .ref a16, .ref a17, .ref a18, .ref a19, .ref a20, .ref a21, .ref a22, .ref a23, .ref a24, .int (nI dn), .int mo, .ref a27, .int (nI tz), .int fk, .int fp, .int so, .int (nI bg), .int (nI ten), .long wd, .int (nI tk), .int sd, .int nb, .int np, .int pli, .ref a40, .int rc, .int rR, .int rW, .int rX, .ref a45, .int (nI rs), .int cm, .ref a48, .ref a49, .int (nI sno), .ref a51])), (a0, .inl (cI, 3, .inl (fun j => nI (C j)))), (a1, .inl (cI, 9, .inl (fun j => nI (Mn j)))), (a2, .inl (cI, 108, .inl kd)), (a3, .inl (cI, 108, .inl cl)), (a4, .inl (cI, 108, .inl rg)), (a5, .inl (cI, 108, .inl uv1)), (a6, .inl (cI, 108, .inl ui1)), (a7, .inl (cI, 108, .inl uv2)), (a8, .inl (cI, 108, .inl ui2)), (a9, .inl (cI, 108, .inl sk)), (a10, .inl (cI, 12, .inl ci)), (a12, .inl (cI, 522000, .inl e_2)), (a13, .inl (cI, 9000, .inl e_3)), (a14, .inl (cI, 9000, .inl e_4)), (a15, .inl (cI, 9000, .inl e_5)), (a16, .inl (cI, 12288, .inl e_6)), (a17, .inl (cI, 3, .inl (fun j => nI (e_7 j)))), (a18, .inl (cZ, 3, .inl e_8)), (a19, .inl (cZ, 3, .inl e_9)), (a20, .inl (cI, 9000, .inl e_10)), (a21, .inl (cI, 3, .inl (fun j => nI (e_11 j)))), (a22, .inl (cI, 58, .inl e_12))] ++ w9) := hD
  refine W.widen (k := kc) (n := ns) (Nat.le_refl _) (Nat.le_refl _) ?_
  have hP := gq_subP (X' := [(h0, .inr (9, [.ref a0, .ref a1, .ref a2, .ref a3, .ref a4, .ref a5, .ref a6, .ref a7, .ref a8, .ref a9, .ref a10, .int ld, .ref a12, .ref a13, .ref a14, .ref a15, .ref a16, .ref a17, .ref a18, .ref a19, .ref a20, .ref a21, .ref a22, .ref a23, .ref a24, .int (nI dn), .int mo, .ref a27, .int (nI tz), .int fk, .int fp, .int so, .int (nI bg), .int (nI ten), .long wd, .int (nI tk), .int sd, .int nb, .int np, .int pli, .ref a40, .int rc, .int rR, .int rW, .int rX, .ref a45, .int (nI rs), .int cm, .ref a48, .ref a49, .int (nI sno), .ref a51])), (a0, .inl (cI, 3, .inl (fun j => nI (C j)))), (a1, .inl (cI, 9, .inl (fun j => nI (Mn j)))), (a2, .inl (cI, 108, .inl kd)), (a3, .inl (cI, 108, .inl cl)), (a4, .inl (cI, 108, .inl rg)), (a5, .inl (cI, 108, .inl uv1)), (a6, .inl (cI, 108, .inl ui1)), (a7, .inl (cI, 108, .inl uv2)), (a8, .inl (cI, 108, .inl ui2)), (a9, .inl (cI, 108, .inl sk)), (a10, .inl (cI, 12, .inl ci)), (a12, .inl (cI, 522000, .inl e_2)), (a13, .inl (cI, 9000, .inl e_3)), (a14, .inl (cI, 9000, .inl e_4)), (a15, .inl (cI, 9000, .inl e_5)), (a16, .inl (cI, 12288, .inl e_6)), (a17, .inl (cI, 3, .inl (fun j => nI (e_7 j)))), (a18, .inl (cZ, 3, .inl e_8)), (a19, .inl (cZ, 3, .inl e_9)), (a20, .inl (cI, 9000, .inl e_10)), (a21, .inl (cI, 3, .inl (fun j => nI (e_11 j)))), (a22, .inl (cI, 58, .inl e_12)), (a23, .inl (cI, 58, .inl mf)), (a24, .inl (cI, 2900, .inl hh)), (a27, .inl (cB, 4000, .inl f)), (a40, .inl (cI, 12, .inl sp)), (a45, .inl (cI, 64, .inl rt)), (a48, .inl (cI, 2, .inl cu)), (a49, .inl (cI, 16, .inl spt)), (a51, .inl (cI, 13, .inl (fun j => nI (mv j))))]) hP [8, 9, 10, 11, 12, 13, 14, 15, 16, 17, 18, 19, 20, 21, 22, 23, 24, 25, 26, 27, 28, 29, 30, 0, 1, 2, 3, 4, 5, 6, 7] rfl
  have hD := gq_subD (X' := [(h0, .inr (9, [.ref a0, .ref a1, .ref a2, .ref a3, .ref a4, .ref a5, .ref a6, .ref a7, .ref a8, .ref a9, .ref a10, .int ld, .ref a12, .ref a13, .ref a14, .ref a15, .ref a16, .ref a17, .ref a18, .ref a19, .ref a20, .ref a21, .ref a22, .ref a23, .ref a24, .int (nI dn), .int mo, .ref a27, .int (nI tz), .int fk, .int fp, .int so, .int (nI bg), .int (nI ten), .long wd, .int (nI tk), .int sd, .int nb, .int np, .int pli, .ref a40, .int rc, .int rR, .int rW, .int rX, .ref a45, .int (nI rs), .int cm, .ref a48, .ref a49, .int (nI sno), .ref a51])), (a0, .inl (cI, 3, .inl (fun j => nI (C j)))), (a1, .inl (cI, 9, .inl (fun j => nI (Mn j)))), (a2, .inl (cI, 108, .inl kd)), (a3, .inl (cI, 108, .inl cl)), (a4, .inl (cI, 108, .inl rg)), (a5, .inl (cI, 108, .inl uv1)), (a6, .inl (cI, 108, .inl ui1)), (a7, .inl (cI, 108, .inl uv2)), (a8, .inl (cI, 108, .inl ui2)), (a9, .inl (cI, 108, .inl sk)), (a10, .inl (cI, 12, .inl ci)), (a12, .inl (cI, 522000, .inl e_2)), (a13, .inl (cI, 9000, .inl e_3)), (a14, .inl (cI, 9000, .inl e_4)), (a15, .inl (cI, 9000, .inl e_5)), (a16, .inl (cI, 12288, .inl e_6)), (a17, .inl (cI, 3, .inl (fun j => nI (e_7 j)))), (a18, .inl (cZ, 3, .inl e_8)), (a19, .inl (cZ, 3, .inl e_9)), (a20, .inl (cI, 9000, .inl e_10)), (a21, .inl (cI, 3, .inl (fun j => nI (e_11 j)))), (a22, .inl (cI, 58, .inl e_12)), (a23, .inl (cI, 58, .inl mf)), (a24, .inl (cI, 2900, .inl hh)), (a27, .inl (cB, 4000, .inl f)), (a40, .inl (cI, 12, .inl sp)), (a45, .inl (cI, 64, .inl rt)), (a48, .inl (cI, 2, .inl cu)), (a49, .inl (cI, 16, .inl spt)), (a51, .inl (cI, 13, .inl (fun j => nI (mv j))))]) hD [8, 9, 10, 11, 12, 13, 14, 15, 16, 17, 18, 19, 20, 21, 22, 23, 24, 25, 26, 27, 28, 29, 30, 0, 1, 2, 3, 4, 5, 6, 7] (by decide) rfl
  exact kk e_1 _ H locs (ModelI_mk cI cB cZ h0 tz f fp ld nc L cf pf vst vk vm vd a0 a1 a2 a3 a4 a5 a6 a7 a8 a9 a10 a12 a13 a14 a15 a16 a17 a18 a19 a20 a21 a22 a23 a24 a27 a40 a45 a48 a49 a51 C Mn kd cl rg uv1 ui1 uv2 ui2 sk ci e_2 e_3 e_4 e_5 e_6 e_7 e_8 e_9 e_10 e_11 e_12 mf hh sp rt cu spt mv dn mo fk so bg ten wd tk sd nb np pli rc rR rW rX rs cm sno htp hB hMo hq_13 hrs hcm hMP hMH) trivial hP hD hS
set_option maxHeartbeats 4000000 in
set_option maxRecDepth 100000 in
theorem md_schedule {p : Program} {l : Launch} {e : Env} {s : State} {m : MethodId} {below : List Frame} {meth : Method} {c : Code} {b : Nat} {A : Nat → Prop} {Q : State → Prop} {D : va_G} {cI cB cZ : ClassId} {K : gKS} (G : gL p s m c b A D cI cB cZ K) {H : Heap} {locs : List Loc} {ls : Array Slot} {w8 w9 : va_W} {h0 tz kc ns tz9 : Nat} {f f9 : Nat → Int32} {fp ld fp9 ld9 : Int32} {nc nc9 : Nat} {L L9 : Nat → Nat} {cf cf9 : Nat → Int32} {pf pf9 : Nat → Int32} {vst vst9 : Int32} {vk vk9 : Nat} {vm vm9 : Int32} {vd vd9 : Nat → Int32} (hkb : kc ≤ 20000 ∧ ns ≤ 2000000) (hH : ModelI cI cB cZ h0 w8 tz f fp ld nc L cf pf vst vk vm vd) (hP : va_P D vwCl (w8 ++ w9) H) (hD : va_D A (w8 ++ w9)) (hS : va_S A s.heap H locs) (hl : ls.size = 4 ∧ True) (z1 : Int32) (z2 : Int32) (z3 : Int32) (r8 : Int32) (hR : tz = tz9 ∧ f = f9 ∧ fp = fp9 ∧ ld = ld9 ∧ nc = nc9 ∧ L = L9 ∧ cf = cf9 ∧ pf = pf9 ∧ vst = vst9 ∧ vk = vk9 ∧ vm = vm9 ∧ vd = vd9) (kk : ∀ (r : Int32) (w8' : va_W) (H1 : Heap) (locs1 : List Loc), ModelI cI cB cZ h0 w8' tz9 f9 fp9 ld9 nc9 L9 cf9 pf9 vst9 vk9 vm9 vd9 → (True) → va_P D vwCl (w8' ++ w9) H1 → va_D A (w8' ++ w9) → va_S A s.heap H1 locs1 → W p l e room_1 s m #[Value.ref b] below meth c H1 locs1 kc ns Q (F0 m 573 ls [.int r])) : W p l e room_1 s m #[Value.ref b] below meth c H locs kc ns Q (F0 m 570 ls [.int z3, .int z2, .int z1, .ref h0]) := by
  obtain ⟨hx, hb, hml, hown, hts, hA, hK, hN, hE⟩ := G
  unfold ModelI at hH
  obtain ⟨a0, hH⟩ := hH
  obtain ⟨a1, hH⟩ := hH
  obtain ⟨a2, hH⟩ := hH
  obtain ⟨a3, hH⟩ := hH
  obtain ⟨a4, hH⟩ := hH
  obtain ⟨a5, hH⟩ := hH
  obtain ⟨a6, hH⟩ := hH
  obtain ⟨a7, hH⟩ := hH
  obtain ⟨a8, hH⟩ := hH
  obtain ⟨a9, hH⟩ := hH
  obtain ⟨a10, hH⟩ := hH
  obtain ⟨a12, hH⟩ := hH
  obtain ⟨a13, hH⟩ := hH
  obtain ⟨a14, hH⟩ := hH
  obtain ⟨a15, hH⟩ := hH
  obtain ⟨a16, hH⟩ := hH
  obtain ⟨a17, hH⟩ := hH
  obtain ⟨a18, hH⟩ := hH
  obtain ⟨a19, hH⟩ := hH
  obtain ⟨a20, hH⟩ := hH
  obtain ⟨a21, hH⟩ := hH
  obtain ⟨a22, hH⟩ := hH
  obtain ⟨a23, hH⟩ := hH
  obtain ⟨a24, hH⟩ := hH
  obtain ⟨a27, hH⟩ := hH
  obtain ⟨a40, hH⟩ := hH
  obtain ⟨a45, hH⟩ := hH
  obtain ⟨a48, hH⟩ := hH
  obtain ⟨a49, hH⟩ := hH
  obtain ⟨a51, hH⟩ := hH
  obtain ⟨C, hH⟩ := hH
  obtain ⟨Mn, hH⟩ := hH
  obtain ⟨kd, hH⟩ := hH
  obtain ⟨cl, hH⟩ := hH
  obtain ⟨rg, hH⟩ := hH
  obtain ⟨uv1, hH⟩ := hH
  obtain ⟨ui1, hH⟩ := hH
  obtain ⟨uv2, hH⟩ := hH
  obtain ⟨ui2, hH⟩ := hH
  obtain ⟨sk, hH⟩ := hH
  obtain ⟨ci, hH⟩ := hH
  obtain ⟨sf, hH⟩ := hH
  obtain ⟨fr, hH⟩ := hH
  obtain ⟨bf, hH⟩ := hH
  obtain ⟨nf, hH⟩ := hH
  obtain ⟨hf, hH⟩ := hH
  obtain ⟨S, hH⟩ := hH
  obtain ⟨ff, hH⟩ := hH
  obtain ⟨df, hH⟩ := hH
  obtain ⟨en, hH⟩ := hH
  obtain ⟨E, hH⟩ := hH
  obtain ⟨nw, hH⟩ := hH
  obtain ⟨mf, hH⟩ := hH
  obtain ⟨hh, hH⟩ := hH
  obtain ⟨sp, hH⟩ := hH
  obtain ⟨rt, hH⟩ := hH
  obtain ⟨cu, hH⟩ := hH
  obtain ⟨spt, hH⟩ := hH
  obtain ⟨mv, hH⟩ := hH
  obtain ⟨dn, hH⟩ := hH
  obtain ⟨mo, hH⟩ := hH
  obtain ⟨fk, hH⟩ := hH
  obtain ⟨so, hH⟩ := hH
  obtain ⟨bg, hH⟩ := hH
  obtain ⟨ten, hH⟩ := hH
  obtain ⟨wd, hH⟩ := hH
  obtain ⟨tk, hH⟩ := hH
  obtain ⟨sd, hH⟩ := hH
  obtain ⟨nb, hH⟩ := hH
  obtain ⟨np, hH⟩ := hH
  obtain ⟨pli, hH⟩ := hH
  obtain ⟨rc, hH⟩ := hH
  obtain ⟨rR, hH⟩ := hH
  obtain ⟨rW, hH⟩ := hH
  obtain ⟨rX, hH⟩ := hH
  obtain ⟨rs, hH⟩ := hH
  obtain ⟨cm, hH⟩ := hH
  obtain ⟨sno, hH⟩ := hH
  obtain ⟨htp, hH⟩ := hH
  obtain ⟨hB, hH⟩ := hH
  obtain ⟨hMo, hH⟩ := hH
  obtain ⟨hAn, hH⟩ := hH
  obtain ⟨hrs, hH⟩ := hH
  obtain ⟨hcm, hH⟩ := hH
  obtain ⟨hMP, hH⟩ := hH
  obtain ⟨hMH, hH⟩ := hH
  subst hH
  obtain ⟨e1, e2, e3, e4, e5, e6, e7, e8, e9, e10, e11, e12⟩ := id hR
  subst e1; subst e2; subst e3; subst e4; subst e5; subst e6; subst e7; subst e8; subst e9; subst e10; subst e11; subst e12
  refine gq_goi (wc := [(h0, .inr (9, [.ref a0, .ref a1, .ref a2, .ref a3, .ref a4, .ref a5, .ref a6, .ref a7, .ref a8, .ref a9, .ref a10, .int ld, .ref a12, .ref a13, .ref a14, .ref a15, .ref a16, .ref a17, .ref a18, .ref a19, .ref a20, .ref a21, .ref a22, .ref a23, .ref a24, .int (nI dn), .int mo, .ref a27, .int (nI tz), .int fk, .int fp, .int so, .int (nI bg), .int (nI ten), .long wd, .int (nI tk), .int sd, .int nb, .int np, .int pli, .ref a40, .int rc, .int rR, .int rW, .int rX, .ref a45, .int (nI rs), .int cm, .ref a48, .ref a49, .int (nI sno), .ref a51])), (a0, .inl (cI, 3, .inl (fun j => nI (C j)))), (a1, .inl (cI, 9, .inl (fun j => nI (Mn j)))), (a2, .inl (cI, 108, .inl kd)), (a3, .inl (cI, 108, .inl cl)), (a4, .inl (cI, 108, .inl rg)), (a5, .inl (cI, 108, .inl uv1)), (a6, .inl (cI, 108, .inl ui1)), (a7, .inl (cI, 108, .inl uv2)), (a8, .inl (cI, 108, .inl ui2)), (a9, .inl (cI, 108, .inl sk)), (a10, .inl (cI, 12, .inl ci)), (a12, .inl (cI, 522000, .inl sf)), (a13, .inl (cI, 9000, .inl fr)), (a14, .inl (cI, 9000, .inl bf)), (a15, .inl (cI, 9000, .inl nf)), (a16, .inl (cI, 12288, .inl hf)), (a17, .inl (cI, 3, .inl (fun j => nI (S j)))), (a18, .inl (cZ, 3, .inl ff)), (a19, .inl (cZ, 3, .inl df)), (a20, .inl (cI, 9000, .inl en)), (a21, .inl (cI, 3, .inl (fun j => nI (E j)))), (a22, .inl (cI, 58, .inl nw))]) (wr := [(a23, .inl (cI, 58, .inl mf)), (a24, .inl (cI, 2900, .inl hh)), (a27, .inl (cB, 4000, .inl f)), (a40, .inl (cI, 12, .inl sp)), (a45, .inl (cI, 64, .inl rt)), (a48, .inl (cI, 2, .inl cu)), (a49, .inl (cI, 16, .inl spt)), (a51, .inl (cI, 13, .inl (fun j => nI (mv j))))]) (va_runV (As := [.int z1, .int z2, .int z3]) (rest := []) ⟨hx, hb, hml, hown, hts⟩ (c_schedule9 l D cI cB cZ h0 a0 a1 a2 a3 a4 a5 a6 a7 a8 a9 a10 a12 a13 a14 a15 a16 a17 a22 a18 a19 a20 a21 (.ref a23) (.ref a24) (.int (nI dn)) (.int mo) (.ref a27) (.int (nI tz)) (.int fk) (.int fp) (.int so) (.int (nI bg)) (.int (nI ten)) (.long wd) (.int (nI tk)) (.int sd) (.int nb) (.int np) (.int pli) (.ref a40) (.int rc) (.int rR) (.int rW) (.int rX) (.ref a45) (.int (nI rs)) (.int cm) (.ref a48) (.ref a49) (.int (nI sno)) (.ref a51) ld C Mn kd cl rg uv1 ui1 uv2 ui2 sk ci sf fr bf nf hf S ff df en E nw z1 z2 z3 hB.1 hB.2.1 hB.2.2.2 hAn _) (cwV 3 hts gP_law__c_schedule9 rfl rfl rfl (by decide +kernel) ⟨Nat.le_of_ble_eq_true rfl, Nat.le_of_ble_eq_true rfl⟩) (gx_preV (ci := 9) (q0 := 0) hK gN.nil (gq_Pl hP) (gq_Dl hD) [0, 1, 2, 3, 4, 5, 6, 7, 8, 9, 10, 11, 12, 13, 14, 15, 16, 17, 18, 19, 20, 21, 22] rfl rfl rfl rfl) rfl rfl hl.1 rfl (lv_room (Nat.le_of_ble_eq_true rfl)) dL_law_570 ⟨(Nat.le_trans (Nat.add_le_add_right hkb.1 _) (Nat.le_of_ble_eq_true rfl)), (Nat.le_trans (Nat.add_le_add_right hkb.2 _) (Nat.le_of_ble_eq_true rfl))⟩) hP hD hS hA [0, 1, 2, 3, 4, 5, 6, 7, 8, 9, 10, 11, 12, 13, 14, 15, 16, 17, 18, 19, 20, 21, 22] [23, 24, 25, 26, 27, 28, 29, 30] rfl rfl rfl (by decide) (fun r1 w1 H locs hp hP hD hS => ?_)
  obtain ⟨e_1, hp⟩ := hp
  obtain ⟨e_2, hp⟩ := hp
  obtain ⟨e_3, hp⟩ := hp
  obtain ⟨e_4, hp⟩ := hp
  obtain ⟨e_5, hp⟩ := hp
  obtain ⟨e_6, hp⟩ := hp
  obtain ⟨e_7, hp⟩ := hp
  obtain ⟨e_8, hp⟩ := hp
  obtain ⟨e_9, hp⟩ := hp
  obtain ⟨e_10, hp⟩ := hp
  obtain ⟨e_11, hp⟩ := hp
  obtain ⟨e_12, hp⟩ := hp
  obtain ⟨hq_13, hp⟩ := hp
  obtain ⟨h9, hp⟩ := hp
  subst hp
  have h9 := h9.symm
  subst h9
  have hq_13 : ∀ t, t < 2 → gA9 t e_9 e_7 e_11 e_3 e_10 := hq_13
  have hP : va_P D vwCl ([(a23, .inl (cI, 58, .inl mf)), (a24, .inl (cI, 2900, .inl hh)), (a27, .inl (cB, 4000, .inl f)), (a40, .inl (cI, 12, .inl sp)), (a45, .inl (cI, 64, .inl rt)), (a48, .inl (cI, 2, .inl cu)), (a49, .inl (cI, 16, .inl spt)), (a51, .inl (cI, 13, .inl (fun j => nI (mv j)))), (h0, .inr (9, [.ref a0, .ref a1, .ref a2, .ref a3, .ref a4, .ref a5, .ref a6, .ref a7, .ref a8, .ref a9, .ref a10, .int ld, .ref a12, .ref a13, .ref a14, .ref a15, .ref a16, .ref a17, .ref a18, .ref a19, .ref a20, .ref a21, .ref a22, .ref a23, .ref a24, .int (nI dn), .int mo, .ref a27, .int (nI tz), .int fk, .int fp, .int so, .int (nI bg), .int (nI ten), .long wd, .int (nI tk), .int sd, .int nb, .int np, .int pli, .ref a40, .int rc, .int rR, .int rW, .int rX, .ref a45, .int (nI rs), .int cm, .ref a48, .ref a49, .int (nI sno), .ref a51])), (a0, .inl (cI, 3, .inl (fun j => nI (C j)))), (a1, .inl (cI, 9, .inl (fun j => nI (Mn j)))), (a2, .inl (cI, 108, .inl kd)), (a3, .inl (cI, 108, .inl cl)), (a4, .inl (cI, 108, .inl rg)), (a5, .inl (cI, 108, .inl uv1)), (a6, .inl (cI, 108, .inl ui1)), (a7, .inl (cI, 108, .inl uv2)), (a8, .inl (cI, 108, .inl ui2)), (a9, .inl (cI, 108, .inl sk)), (a10, .inl (cI, 12, .inl ci)), (a12, .inl (cI, 522000, .inl e_2)), (a13, .inl (cI, 9000, .inl e_3)), (a14, .inl (cI, 9000, .inl e_4)), (a15, .inl (cI, 9000, .inl e_5)), (a16, .inl (cI, 12288, .inl e_6)), (a17, .inl (cI, 3, .inl (fun j => nI (e_7 j)))), (a18, .inl (cZ, 3, .inl e_8)), (a19, .inl (cZ, 3, .inl e_9)), (a20, .inl (cI, 9000, .inl e_10)), (a21, .inl (cI, 3, .inl (fun j => nI (e_11 j)))), (a22, .inl (cI, 58, .inl e_12))] ++ w9) H := hP
  have hD : va_D A ([(a23, .inl (cI, 58, .inl mf)), (a24, .inl (cI, 2900, .inl hh)), (a27, .inl (cB, 4000, .inl f)), (a40, .inl (cI, 12, .inl sp)), (a45, .inl (cI, 64, .inl rt)), (a48, .inl (cI, 2, .inl cu)), (a49, .inl (cI, 16, .inl spt)), (a51, .inl (cI, 13, .inl (fun j => nI (mv j)))), (h0, .inr (9, [.ref a0, .ref a1, .ref a2, .ref a3, .ref a4, .ref a5, .ref a6, .ref a7, .ref a8, .ref a9, .ref a10, .int ld, .ref a12, .ref a13, .ref a14, .ref a15, .ref a16, .ref a17, .ref a18, .ref a19, .ref a20, .ref a21, .ref a22, .ref a23, .ref a24, .int (nI dn), .int mo, .ref a27, .int (nI tz), .int fk, .int fp, .int so, .int (nI bg), .int (nI ten), .long wd, .int (nI tk), .int sd, .int nb, .int np, .int pli, .ref a40, .int rc, .int rR, .int rW, .int rX, .ref a45, .int (nI rs), .int cm, .ref a48, .ref a49, .int (nI sno), .ref a51])), (a0, .inl (cI, 3, .inl (fun j => nI (C j)))), (a1, .inl (cI, 9, .inl (fun j => nI (Mn j)))), (a2, .inl (cI, 108, .inl kd)), (a3, .inl (cI, 108, .inl cl)), (a4, .inl (cI, 108, .inl rg)), (a5, .inl (cI, 108, .inl uv1)), (a6, .inl (cI, 108, .inl ui1)), (a7, .inl (cI, 108, .inl uv2)), (a8, .inl (cI, 108, .inl ui2)), (a9, .inl (cI, 108, .inl sk)), (a10, .inl (cI, 12, .inl ci)), (a12, .inl (cI, 522000, .inl e_2)), (a13, .inl (cI, 9000, .inl e_3)), (a14, .inl (cI, 9000, .inl e_4)), (a15, .inl (cI, 9000, .inl e_5)), (a16, .inl (cI, 12288, .inl e_6)), (a17, .inl (cI, 3, .inl (fun j => nI (e_7 j)))), (a18, .inl (cZ, 3, .inl e_8)), (a19, .inl (cZ, 3, .inl e_9)), (a20, .inl (cI, 9000, .inl e_10)), (a21, .inl (cI, 3, .inl (fun j => nI (e_11 j)))), (a22, .inl (cI, 58, .inl e_12))] ++ w9) := hD
  refine W.widen (k := kc) (n := ns) (Nat.le_refl _) (Nat.le_refl _) ?_
  have hP := gq_subP (X' := [(h0, .inr (9, [.ref a0, .ref a1, .ref a2, .ref a3, .ref a4, .ref a5, .ref a6, .ref a7, .ref a8, .ref a9, .ref a10, .int ld, .ref a12, .ref a13, .ref a14, .ref a15, .ref a16, .ref a17, .ref a18, .ref a19, .ref a20, .ref a21, .ref a22, .ref a23, .ref a24, .int (nI dn), .int mo, .ref a27, .int (nI tz), .int fk, .int fp, .int so, .int (nI bg), .int (nI ten), .long wd, .int (nI tk), .int sd, .int nb, .int np, .int pli, .ref a40, .int rc, .int rR, .int rW, .int rX, .ref a45, .int (nI rs), .int cm, .ref a48, .ref a49, .int (nI sno), .ref a51])), (a0, .inl (cI, 3, .inl (fun j => nI (C j)))), (a1, .inl (cI, 9, .inl (fun j => nI (Mn j)))), (a2, .inl (cI, 108, .inl kd)), (a3, .inl (cI, 108, .inl cl)), (a4, .inl (cI, 108, .inl rg)), (a5, .inl (cI, 108, .inl uv1)), (a6, .inl (cI, 108, .inl ui1)), (a7, .inl (cI, 108, .inl uv2)), (a8, .inl (cI, 108, .inl ui2)), (a9, .inl (cI, 108, .inl sk)), (a10, .inl (cI, 12, .inl ci)), (a12, .inl (cI, 522000, .inl e_2)), (a13, .inl (cI, 9000, .inl e_3)), (a14, .inl (cI, 9000, .inl e_4)), (a15, .inl (cI, 9000, .inl e_5)), (a16, .inl (cI, 12288, .inl e_6)), (a17, .inl (cI, 3, .inl (fun j => nI (e_7 j)))), (a18, .inl (cZ, 3, .inl e_8)), (a19, .inl (cZ, 3, .inl e_9)), (a20, .inl (cI, 9000, .inl e_10)), (a21, .inl (cI, 3, .inl (fun j => nI (e_11 j)))), (a22, .inl (cI, 58, .inl e_12)), (a23, .inl (cI, 58, .inl mf)), (a24, .inl (cI, 2900, .inl hh)), (a27, .inl (cB, 4000, .inl f)), (a40, .inl (cI, 12, .inl sp)), (a45, .inl (cI, 64, .inl rt)), (a48, .inl (cI, 2, .inl cu)), (a49, .inl (cI, 16, .inl spt)), (a51, .inl (cI, 13, .inl (fun j => nI (mv j))))]) hP [8, 9, 10, 11, 12, 13, 14, 15, 16, 17, 18, 19, 20, 21, 22, 23, 24, 25, 26, 27, 28, 29, 30, 0, 1, 2, 3, 4, 5, 6, 7] rfl
  have hD := gq_subD (X' := [(h0, .inr (9, [.ref a0, .ref a1, .ref a2, .ref a3, .ref a4, .ref a5, .ref a6, .ref a7, .ref a8, .ref a9, .ref a10, .int ld, .ref a12, .ref a13, .ref a14, .ref a15, .ref a16, .ref a17, .ref a18, .ref a19, .ref a20, .ref a21, .ref a22, .ref a23, .ref a24, .int (nI dn), .int mo, .ref a27, .int (nI tz), .int fk, .int fp, .int so, .int (nI bg), .int (nI ten), .long wd, .int (nI tk), .int sd, .int nb, .int np, .int pli, .ref a40, .int rc, .int rR, .int rW, .int rX, .ref a45, .int (nI rs), .int cm, .ref a48, .ref a49, .int (nI sno), .ref a51])), (a0, .inl (cI, 3, .inl (fun j => nI (C j)))), (a1, .inl (cI, 9, .inl (fun j => nI (Mn j)))), (a2, .inl (cI, 108, .inl kd)), (a3, .inl (cI, 108, .inl cl)), (a4, .inl (cI, 108, .inl rg)), (a5, .inl (cI, 108, .inl uv1)), (a6, .inl (cI, 108, .inl ui1)), (a7, .inl (cI, 108, .inl uv2)), (a8, .inl (cI, 108, .inl ui2)), (a9, .inl (cI, 108, .inl sk)), (a10, .inl (cI, 12, .inl ci)), (a12, .inl (cI, 522000, .inl e_2)), (a13, .inl (cI, 9000, .inl e_3)), (a14, .inl (cI, 9000, .inl e_4)), (a15, .inl (cI, 9000, .inl e_5)), (a16, .inl (cI, 12288, .inl e_6)), (a17, .inl (cI, 3, .inl (fun j => nI (e_7 j)))), (a18, .inl (cZ, 3, .inl e_8)), (a19, .inl (cZ, 3, .inl e_9)), (a20, .inl (cI, 9000, .inl e_10)), (a21, .inl (cI, 3, .inl (fun j => nI (e_11 j)))), (a22, .inl (cI, 58, .inl e_12)), (a23, .inl (cI, 58, .inl mf)), (a24, .inl (cI, 2900, .inl hh)), (a27, .inl (cB, 4000, .inl f)), (a40, .inl (cI, 12, .inl sp)), (a45, .inl (cI, 64, .inl rt)), (a48, .inl (cI, 2, .inl cu)), (a49, .inl (cI, 16, .inl spt)), (a51, .inl (cI, 13, .inl (fun j => nI (mv j))))]) hD [8, 9, 10, 11, 12, 13, 14, 15, 16, 17, 18, 19, 20, 21, 22, 23, 24, 25, 26, 27, 28, 29, 30, 0, 1, 2, 3, 4, 5, 6, 7] (by decide) rfl
  exact kk e_1 _ H locs (ModelI_mk cI cB cZ h0 tz f fp ld nc L cf pf vst vk vm vd a0 a1 a2 a3 a4 a5 a6 a7 a8 a9 a10 a12 a13 a14 a15 a16 a17 a18 a19 a20 a21 a22 a23 a24 a27 a40 a45 a48 a49 a51 C Mn kd cl rg uv1 ui1 uv2 ui2 sk ci e_2 e_3 e_4 e_5 e_6 e_7 e_8 e_9 e_10 e_11 e_12 mf hh sp rt cu spt mv dn mo fk so bg ten wd tk sd nb np pli rc rR rW rX rs cm sno htp hB hMo hq_13 hrs hcm hMP hMH) trivial hP hD hS
set_option maxHeartbeats 4000000 in
set_option maxRecDepth 100000 in
theorem md_more {p : Program} {l : Launch} {e : Env} {s : State} {m : MethodId} {below : List Frame} {meth : Method} {c : Code} {b : Nat} {A : Nat → Prop} {Q : State → Prop} {D : va_G} {cI cB cZ : ClassId} {K : gKS} (G : gL p s m c b A D cI cB cZ K) {H : Heap} {locs : List Loc} {ls : Array Slot} {w8 w9 : va_W} {h0 tz kc ns tz9 : Nat} {f f9 : Nat → Int32} {fp ld fp9 ld9 : Int32} {nc nc9 : Nat} {L L9 : Nat → Nat} {cf cf9 : Nat → Int32} {pf pf9 : Nat → Int32} {vst vst9 : Int32} {vk vk9 : Nat} {vm vm9 : Int32} {vd vd9 : Nat → Int32} (hkb : kc ≤ 20000 ∧ ns ≤ 2000000) (hH : ModelI cI cB cZ h0 w8 tz f fp ld nc L cf pf vst vk vm vd) (hP : va_P D vwCl (w8 ++ w9) H) (hD : va_D A (w8 ++ w9)) (hS : va_S A s.heap H locs) (hl : ls.size = 4 ∧ True) (z1 : Int32) (r8 : Int32) (hR : tz = tz9 ∧ f = f9 ∧ fp = fp9 ∧ ld = ld9 ∧ nc = nc9 ∧ L = L9 ∧ cf = cf9 ∧ pf = pf9 ∧ vst = vst9 ∧ vk = vk9 ∧ vm = vm9 ∧ vd = vd9) (kk : ∀ (r : Int32) (w8' : va_W) (H1 : Heap) (locs1 : List Loc), ModelI cI cB cZ h0 w8' tz9 f9 fp9 ld9 nc9 L9 cf9 pf9 vst9 vk9 vm9 vd9 → (True) → va_P D vwCl (w8' ++ w9) H1 → va_D A (w8' ++ w9) → va_S A s.heap H1 locs1 → W p l e room_1 s m #[Value.ref b] below meth c H1 locs1 kc ns Q (F0 m 596 ls [.int r])) : W p l e room_1 s m #[Value.ref b] below meth c H locs kc ns Q (F0 m 593 ls [.int z1, .ref h0]) := by
  obtain ⟨hx, hb, hml, hown, hts, hA, hK, hN, hE⟩ := G
  unfold ModelI at hH
  obtain ⟨a0, hH⟩ := hH
  obtain ⟨a1, hH⟩ := hH
  obtain ⟨a2, hH⟩ := hH
  obtain ⟨a3, hH⟩ := hH
  obtain ⟨a4, hH⟩ := hH
  obtain ⟨a5, hH⟩ := hH
  obtain ⟨a6, hH⟩ := hH
  obtain ⟨a7, hH⟩ := hH
  obtain ⟨a8, hH⟩ := hH
  obtain ⟨a9, hH⟩ := hH
  obtain ⟨a10, hH⟩ := hH
  obtain ⟨a12, hH⟩ := hH
  obtain ⟨a13, hH⟩ := hH
  obtain ⟨a14, hH⟩ := hH
  obtain ⟨a15, hH⟩ := hH
  obtain ⟨a16, hH⟩ := hH
  obtain ⟨a17, hH⟩ := hH
  obtain ⟨a18, hH⟩ := hH
  obtain ⟨a19, hH⟩ := hH
  obtain ⟨a20, hH⟩ := hH
  obtain ⟨a21, hH⟩ := hH
  obtain ⟨a22, hH⟩ := hH
  obtain ⟨a23, hH⟩ := hH
  obtain ⟨a24, hH⟩ := hH
  obtain ⟨a27, hH⟩ := hH
  obtain ⟨a40, hH⟩ := hH
  obtain ⟨a45, hH⟩ := hH
  obtain ⟨a48, hH⟩ := hH
  obtain ⟨a49, hH⟩ := hH
  obtain ⟨a51, hH⟩ := hH
  obtain ⟨C, hH⟩ := hH
  obtain ⟨Mn, hH⟩ := hH
  obtain ⟨kd, hH⟩ := hH
  obtain ⟨cl, hH⟩ := hH
  obtain ⟨rg, hH⟩ := hH
  obtain ⟨uv1, hH⟩ := hH
  obtain ⟨ui1, hH⟩ := hH
  obtain ⟨uv2, hH⟩ := hH
  obtain ⟨ui2, hH⟩ := hH
  obtain ⟨sk, hH⟩ := hH
  obtain ⟨ci, hH⟩ := hH
  obtain ⟨sf, hH⟩ := hH
  obtain ⟨fr, hH⟩ := hH
  obtain ⟨bf, hH⟩ := hH
  obtain ⟨nf, hH⟩ := hH
  obtain ⟨hf, hH⟩ := hH
  obtain ⟨S, hH⟩ := hH
  obtain ⟨ff, hH⟩ := hH
  obtain ⟨df, hH⟩ := hH
  obtain ⟨en, hH⟩ := hH
  obtain ⟨E, hH⟩ := hH
  obtain ⟨nw, hH⟩ := hH
  obtain ⟨mf, hH⟩ := hH
  obtain ⟨hh, hH⟩ := hH
  obtain ⟨sp, hH⟩ := hH
  obtain ⟨rt, hH⟩ := hH
  obtain ⟨cu, hH⟩ := hH
  obtain ⟨spt, hH⟩ := hH
  obtain ⟨mv, hH⟩ := hH
  obtain ⟨dn, hH⟩ := hH
  obtain ⟨mo, hH⟩ := hH
  obtain ⟨fk, hH⟩ := hH
  obtain ⟨so, hH⟩ := hH
  obtain ⟨bg, hH⟩ := hH
  obtain ⟨ten, hH⟩ := hH
  obtain ⟨wd, hH⟩ := hH
  obtain ⟨tk, hH⟩ := hH
  obtain ⟨sd, hH⟩ := hH
  obtain ⟨nb, hH⟩ := hH
  obtain ⟨np, hH⟩ := hH
  obtain ⟨pli, hH⟩ := hH
  obtain ⟨rc, hH⟩ := hH
  obtain ⟨rR, hH⟩ := hH
  obtain ⟨rW, hH⟩ := hH
  obtain ⟨rX, hH⟩ := hH
  obtain ⟨rs, hH⟩ := hH
  obtain ⟨cm, hH⟩ := hH
  obtain ⟨sno, hH⟩ := hH
  obtain ⟨htp, hH⟩ := hH
  obtain ⟨hB, hH⟩ := hH
  obtain ⟨hMo, hH⟩ := hH
  obtain ⟨hAn, hH⟩ := hH
  obtain ⟨hrs, hH⟩ := hH
  obtain ⟨hcm, hH⟩ := hH
  obtain ⟨hMP, hH⟩ := hH
  obtain ⟨hMH, hH⟩ := hH
  subst hH
  obtain ⟨e1, e2, e3, e4, e5, e6, e7, e8, e9, e10, e11, e12⟩ := id hR
  subst e1; subst e2; subst e3; subst e4; subst e5; subst e6; subst e7; subst e8; subst e9; subst e10; subst e11; subst e12
  refine gq_goi (wc := [(h0, .inr (9, [.ref a0, .ref a1, .ref a2, .ref a3, .ref a4, .ref a5, .ref a6, .ref a7, .ref a8, .ref a9, .ref a10, .int ld, .ref a12, .ref a13, .ref a14, .ref a15, .ref a16, .ref a17, .ref a18, .ref a19, .ref a20, .ref a21, .ref a22, .ref a23, .ref a24, .int (nI dn), .int mo, .ref a27, .int (nI tz), .int fk, .int fp, .int so, .int (nI bg), .int (nI ten), .long wd, .int (nI tk), .int sd, .int nb, .int np, .int pli, .ref a40, .int rc, .int rR, .int rW, .int rX, .ref a45, .int (nI rs), .int cm, .ref a48, .ref a49, .int (nI sno), .ref a51])), (a0, .inl (cI, 3, .inl (fun j => nI (C j)))), (a1, .inl (cI, 9, .inl (fun j => nI (Mn j)))), (a2, .inl (cI, 108, .inl kd)), (a3, .inl (cI, 108, .inl cl)), (a4, .inl (cI, 108, .inl rg)), (a5, .inl (cI, 108, .inl uv1)), (a6, .inl (cI, 108, .inl ui1)), (a7, .inl (cI, 108, .inl uv2)), (a8, .inl (cI, 108, .inl ui2)), (a9, .inl (cI, 108, .inl sk)), (a10, .inl (cI, 12, .inl ci)), (a12, .inl (cI, 522000, .inl sf)), (a13, .inl (cI, 9000, .inl fr)), (a14, .inl (cI, 9000, .inl bf)), (a15, .inl (cI, 9000, .inl nf)), (a16, .inl (cI, 12288, .inl hf)), (a17, .inl (cI, 3, .inl (fun j => nI (S j)))), (a18, .inl (cZ, 3, .inl ff)), (a19, .inl (cZ, 3, .inl df)), (a20, .inl (cI, 9000, .inl en)), (a21, .inl (cI, 3, .inl (fun j => nI (E j)))), (a22, .inl (cI, 58, .inl nw))]) (wr := [(a23, .inl (cI, 58, .inl mf)), (a24, .inl (cI, 2900, .inl hh)), (a27, .inl (cB, 4000, .inl f)), (a40, .inl (cI, 12, .inl sp)), (a45, .inl (cI, 64, .inl rt)), (a48, .inl (cI, 2, .inl cu)), (a49, .inl (cI, 16, .inl spt)), (a51, .inl (cI, 13, .inl (fun j => nI (mv j))))]) (va_runV (As := [.int z1]) (rest := []) ⟨hx, hb, hml, hown, hts⟩ (c_more9 l D cI cB cZ h0 a0 a1 a2 a3 a4 a5 a6 a7 a8 a9 a10 a12 a13 a14 a15 a16 a17 a22 a18 a19 a20 a21 (.ref a23) (.ref a24) (.int (nI dn)) (.int mo) (.ref a27) (.int (nI tz)) (.int fk) (.int fp) (.int so) (.int (nI bg)) (.int (nI ten)) (.long wd) (.int (nI tk)) (.int sd) (.int nb) (.int np) (.int pli) (.ref a40) (.int rc) (.int rR) (.int rW) (.int rX) (.ref a45) (.int (nI rs)) (.int cm) (.ref a48) (.ref a49) (.int (nI sno)) (.ref a51) ld C Mn kd cl rg uv1 ui1 uv2 ui2 sk ci sf fr bf nf hf S ff df en E nw z1 hB.1 hB.2.1 hB.2.2.2 hAn _) (cwV 1 hts gP_law__c_more9 rfl rfl rfl (by decide +kernel) ⟨Nat.le_of_ble_eq_true rfl, Nat.le_of_ble_eq_true rfl⟩) (gx_preV (ci := 9) (q0 := 0) hK gN.nil (gq_Pl hP) (gq_Dl hD) [0, 1, 2, 3, 4, 5, 6, 7, 8, 9, 10, 11, 12, 13, 14, 15, 16, 17, 18, 19, 20, 21, 22] rfl rfl rfl rfl) rfl rfl hl.1 rfl (lv_room (Nat.le_of_ble_eq_true rfl)) dL_law_593 ⟨(Nat.le_trans (Nat.add_le_add_right hkb.1 _) (Nat.le_of_ble_eq_true rfl)), (Nat.le_trans (Nat.add_le_add_right hkb.2 _) (Nat.le_of_ble_eq_true rfl))⟩) hP hD hS hA [0, 1, 2, 3, 4, 5, 6, 7, 8, 9, 10, 11, 12, 13, 14, 15, 16, 17, 18, 19, 20, 21, 22] [23, 24, 25, 26, 27, 28, 29, 30] rfl rfl rfl (by decide) (fun r1 w1 H locs hp hP hD hS => ?_)
  obtain ⟨e_1, hp⟩ := hp
  obtain ⟨e_2, hp⟩ := hp
  obtain ⟨e_3, hp⟩ := hp
  obtain ⟨e_4, hp⟩ := hp
  obtain ⟨e_5, hp⟩ := hp
  obtain ⟨e_6, hp⟩ := hp
  obtain ⟨e_7, hp⟩ := hp
  obtain ⟨e_8, hp⟩ := hp
  obtain ⟨e_9, hp⟩ := hp
  obtain ⟨e_10, hp⟩ := hp
  obtain ⟨e_11, hp⟩ := hp
  obtain ⟨e_12, hp⟩ := hp
  obtain ⟨hq_13, hp⟩ := hp
  obtain ⟨h9, hp⟩ := hp
  subst hp
  have h9 := h9.symm
  subst h9
  have hq_13 : ∀ t, t < 2 → gA9 t e_9 e_7 e_11 e_3 e_10 := hq_13
  have hP : va_P D vwCl ([(a23, .inl (cI, 58, .inl mf)), (a24, .inl (cI, 2900, .inl hh)), (a27, .inl (cB, 4000, .inl f)), (a40, .inl (cI, 12, .inl sp)), (a45, .inl (cI, 64, .inl rt)), (a48, .inl (cI, 2, .inl cu)), (a49, .inl (cI, 16, .inl spt)), (a51, .inl (cI, 13, .inl (fun j => nI (mv j)))), (h0, .inr (9, [.ref a0, .ref a1, .ref a2, .ref a3, .ref a4, .ref a5, .ref a6, .ref a7, .ref a8, .ref a9, .ref a10, .int ld, .ref a12, .ref a13, .ref a14, .ref a15, .ref a16, .ref a17, .ref a18, .ref a19, .ref a20, .ref a21, .ref a22, .ref a23, .ref a24, .int (nI dn), .int mo, .ref a27, .int (nI tz), .int fk, .int fp, .int so, .int (nI bg), .int (nI ten), .long wd, .int (nI tk), .int sd, .int nb, .int np, .int pli, .ref a40, .int rc, .int rR, .int rW, .int rX, .ref a45, .int (nI rs), .int cm, .ref a48, .ref a49, .int (nI sno), .ref a51])), (a0, .inl (cI, 3, .inl (fun j => nI (C j)))), (a1, .inl (cI, 9, .inl (fun j => nI (Mn j)))), (a2, .inl (cI, 108, .inl kd)), (a3, .inl (cI, 108, .inl cl)), (a4, .inl (cI, 108, .inl rg)), (a5, .inl (cI, 108, .inl uv1)), (a6, .inl (cI, 108, .inl ui1)), (a7, .inl (cI, 108, .inl uv2)), (a8, .inl (cI, 108, .inl ui2)), (a9, .inl (cI, 108, .inl sk)), (a10, .inl (cI, 12, .inl ci)), (a12, .inl (cI, 522000, .inl e_2)), (a13, .inl (cI, 9000, .inl e_3)), (a14, .inl (cI, 9000, .inl e_4)), (a15, .inl (cI, 9000, .inl e_5)), (a16, .inl (cI, 12288, .inl e_6)), (a17, .inl (cI, 3, .inl (fun j => nI (e_7 j)))), (a18, .inl (cZ, 3, .inl e_8)), (a19, .inl (cZ, 3, .inl e_9)), (a20, .inl (cI, 9000, .inl e_10)), (a21, .inl (cI, 3, .inl (fun j => nI (e_11 j)))), (a22, .inl (cI, 58, .inl e_12))] ++ w9) H := hP
  have hD : va_D A ([(a23, .inl (cI, 58, .inl mf)), (a24, .inl (cI, 2900, .inl hh)), (a27, .inl (cB, 4000, .inl f)), (a40, .inl (cI, 12, .inl sp)), (a45, .inl (cI, 64, .inl rt)), (a48, .inl (cI, 2, .inl cu)), (a49, .inl (cI, 16, .inl spt)), (a51, .inl (cI, 13, .inl (fun j => nI (mv j)))), (h0, .inr (9, [.ref a0, .ref a1, .ref a2, .ref a3, .ref a4, .ref a5, .ref a6, .ref a7, .ref a8, .ref a9, .ref a10, .int ld, .ref a12, .ref a13, .ref a14, .ref a15, .ref a16, .ref a17, .ref a18, .ref a19, .ref a20, .ref a21, .ref a22, .ref a23, .ref a24, .int (nI dn), .int mo, .ref a27, .int (nI tz), .int fk, .int fp, .int so, .int (nI bg), .int (nI ten), .long wd, .int (nI tk), .int sd, .int nb, .int np, .int pli, .ref a40, .int rc, .int rR, .int rW, .int rX, .ref a45, .int (nI rs), .int cm, .ref a48, .ref a49, .int (nI sno), .ref a51])), (a0, .inl (cI, 3, .inl (fun j => nI (C j)))), (a1, .inl (cI, 9, .inl (fun j => nI (Mn j)))), (a2, .inl (cI, 108, .inl kd)), (a3, .inl (cI, 108, .inl cl)), (a4, .inl (cI, 108, .inl rg)), (a5, .inl (cI, 108, .inl uv1)), (a6, .inl (cI, 108, .inl ui1)), (a7, .inl (cI, 108, .inl uv2)), (a8, .inl (cI, 108, .inl ui2)), (a9, .inl (cI, 108, .inl sk)), (a10, .inl (cI, 12, .inl ci)), (a12, .inl (cI, 522000, .inl e_2)), (a13, .inl (cI, 9000, .inl e_3)), (a14, .inl (cI, 9000, .inl e_4)), (a15, .inl (cI, 9000, .inl e_5)), (a16, .inl (cI, 12288, .inl e_6)), (a17, .inl (cI, 3, .inl (fun j => nI (e_7 j)))), (a18, .inl (cZ, 3, .inl e_8)), (a19, .inl (cZ, 3, .inl e_9)), (a20, .inl (cI, 9000, .inl e_10)), (a21, .inl (cI, 3, .inl (fun j => nI (e_11 j)))), (a22, .inl (cI, 58, .inl e_12))] ++ w9) := hD
  refine W.widen (k := kc) (n := ns) (Nat.le_refl _) (Nat.le_refl _) ?_
  have hP := gq_subP (X' := [(h0, .inr (9, [.ref a0, .ref a1, .ref a2, .ref a3, .ref a4, .ref a5, .ref a6, .ref a7, .ref a8, .ref a9, .ref a10, .int ld, .ref a12, .ref a13, .ref a14, .ref a15, .ref a16, .ref a17, .ref a18, .ref a19, .ref a20, .ref a21, .ref a22, .ref a23, .ref a24, .int (nI dn), .int mo, .ref a27, .int (nI tz), .int fk, .int fp, .int so, .int (nI bg), .int (nI ten), .long wd, .int (nI tk), .int sd, .int nb, .int np, .int pli, .ref a40, .int rc, .int rR, .int rW, .int rX, .ref a45, .int (nI rs), .int cm, .ref a48, .ref a49, .int (nI sno), .ref a51])), (a0, .inl (cI, 3, .inl (fun j => nI (C j)))), (a1, .inl (cI, 9, .inl (fun j => nI (Mn j)))), (a2, .inl (cI, 108, .inl kd)), (a3, .inl (cI, 108, .inl cl)), (a4, .inl (cI, 108, .inl rg)), (a5, .inl (cI, 108, .inl uv1)), (a6, .inl (cI, 108, .inl ui1)), (a7, .inl (cI, 108, .inl uv2)), (a8, .inl (cI, 108, .inl ui2)), (a9, .inl (cI, 108, .inl sk)), (a10, .inl (cI, 12, .inl ci)), (a12, .inl (cI, 522000, .inl e_2)), (a13, .inl (cI, 9000, .inl e_3)), (a14, .inl (cI, 9000, .inl e_4)), (a15, .inl (cI, 9000, .inl e_5)), (a16, .inl (cI, 12288, .inl e_6)), (a17, .inl (cI, 3, .inl (fun j => nI (e_7 j)))), (a18, .inl (cZ, 3, .inl e_8)), (a19, .inl (cZ, 3, .inl e_9)), (a20, .inl (cI, 9000, .inl e_10)), (a21, .inl (cI, 3, .inl (fun j => nI (e_11 j)))), (a22, .inl (cI, 58, .inl e_12)), (a23, .inl (cI, 58, .inl mf)), (a24, .inl (cI, 2900, .inl hh)), (a27, .inl (cB, 4000, .inl f)), (a40, .inl (cI, 12, .inl sp)), (a45, .inl (cI, 64, .inl rt)), (a48, .inl (cI, 2, .inl cu)), (a49, .inl (cI, 16, .inl spt)), (a51, .inl (cI, 13, .inl (fun j => nI (mv j))))]) hP [8, 9, 10, 11, 12, 13, 14, 15, 16, 17, 18, 19, 20, 21, 22, 23, 24, 25, 26, 27, 28, 29, 30, 0, 1, 2, 3, 4, 5, 6, 7] rfl
  have hD := gq_subD (X' := [(h0, .inr (9, [.ref a0, .ref a1, .ref a2, .ref a3, .ref a4, .ref a5, .ref a6, .ref a7, .ref a8, .ref a9, .ref a10, .int ld, .ref a12, .ref a13, .ref a14, .ref a15, .ref a16, .ref a17, .ref a18, .ref a19, .ref a20, .ref a21, .ref a22, .ref a23, .ref a24, .int (nI dn), .int mo, .ref a27, .int (nI tz), .int fk, .int fp, .int so, .int (nI bg), .int (nI ten), .long wd, .int (nI tk), .int sd, .int nb, .int np, .int pli, .ref a40, .int rc, .int rR, .int rW, .int rX, .ref a45, .int (nI rs), .int cm, .ref a48, .ref a49, .int (nI sno), .ref a51])), (a0, .inl (cI, 3, .inl (fun j => nI (C j)))), (a1, .inl (cI, 9, .inl (fun j => nI (Mn j)))), (a2, .inl (cI, 108, .inl kd)), (a3, .inl (cI, 108, .inl cl)), (a4, .inl (cI, 108, .inl rg)), (a5, .inl (cI, 108, .inl uv1)), (a6, .inl (cI, 108, .inl ui1)), (a7, .inl (cI, 108, .inl uv2)), (a8, .inl (cI, 108, .inl ui2)), (a9, .inl (cI, 108, .inl sk)), (a10, .inl (cI, 12, .inl ci)), (a12, .inl (cI, 522000, .inl e_2)), (a13, .inl (cI, 9000, .inl e_3)), (a14, .inl (cI, 9000, .inl e_4)), (a15, .inl (cI, 9000, .inl e_5)), (a16, .inl (cI, 12288, .inl e_6)), (a17, .inl (cI, 3, .inl (fun j => nI (e_7 j)))), (a18, .inl (cZ, 3, .inl e_8)), (a19, .inl (cZ, 3, .inl e_9)), (a20, .inl (cI, 9000, .inl e_10)), (a21, .inl (cI, 3, .inl (fun j => nI (e_11 j)))), (a22, .inl (cI, 58, .inl e_12)), (a23, .inl (cI, 58, .inl mf)), (a24, .inl (cI, 2900, .inl hh)), (a27, .inl (cB, 4000, .inl f)), (a40, .inl (cI, 12, .inl sp)), (a45, .inl (cI, 64, .inl rt)), (a48, .inl (cI, 2, .inl cu)), (a49, .inl (cI, 16, .inl spt)), (a51, .inl (cI, 13, .inl (fun j => nI (mv j))))]) hD [8, 9, 10, 11, 12, 13, 14, 15, 16, 17, 18, 19, 20, 21, 22, 23, 24, 25, 26, 27, 28, 29, 30, 0, 1, 2, 3, 4, 5, 6, 7] (by decide) rfl
  exact kk e_1 _ H locs (ModelI_mk cI cB cZ h0 tz f fp ld nc L cf pf vst vk vm vd a0 a1 a2 a3 a4 a5 a6 a7 a8 a9 a10 a12 a13 a14 a15 a16 a17 a18 a19 a20 a21 a22 a23 a24 a27 a40 a45 a48 a49 a51 C Mn kd cl rg uv1 ui1 uv2 ui2 sk ci e_2 e_3 e_4 e_5 e_6 e_7 e_8 e_9 e_10 e_11 e_12 mf hh sp rt cu spt mv dn mo fk so bg ten wd tk sd nb np pli rc rR rW rX rs cm sno htp hB hMo hq_13 hrs hcm hMP hMH) trivial hP hD hS
set_option maxHeartbeats 4000000 in
set_option maxRecDepth 100000 in
theorem md_race {p : Program} {l : Launch} {e : Env} {s : State} {m : MethodId} {below : List Frame} {meth : Method} {c : Code} {b : Nat} {A : Nat → Prop} {Q : State → Prop} {D : va_G} {cI cB cZ : ClassId} {K : gKS} (G : gL p s m c b A D cI cB cZ K) {H : Heap} {locs : List Loc} {ls : Array Slot} {w8 w9 : va_W} {h0 tz kc ns tz9 : Nat} {f f9 : Nat → Int32} {fp ld fp9 ld9 : Int32} {nc nc9 : Nat} {L L9 : Nat → Nat} {cf cf9 : Nat → Int32} {pf pf9 : Nat → Int32} {vst vst9 : Int32} {vk vk9 : Nat} {vm vm9 : Int32} {vd vd9 : Nat → Int32} (hkb : kc ≤ 20000 ∧ ns ≤ 2000000) (hH : ModelI cI cB cZ h0 w8 tz f fp ld nc L cf pf vst vk vm vd) (hP : va_P D vwCl (w8 ++ w9) H) (hD : va_D A (w8 ++ w9)) (hS : va_S A s.heap H locs) (hl : ls.size = 4 ∧ True) (r8 : Int32) (hR : tz = tz9 ∧ f = f9 ∧ fp = fp9 ∧ ld = ld9 ∧ nc = nc9 ∧ L = L9 ∧ cf = cf9 ∧ pf = pf9 ∧ vst = vst9 ∧ vk = vk9 ∧ vm = vm9 ∧ vd = vd9) (kk : ∀ (r : Int32) (w8' : va_W) (H1 : Heap) (locs1 : List Loc), ModelI cI cB cZ h0 w8' tz9 f9 fp9 ld9 nc9 L9 cf9 pf9 vst9 vk9 vm9 vd9 → (True) → va_P D vwCl (w8' ++ w9) H1 → va_D A (w8' ++ w9) → va_S A s.heap H1 locs1 → W p l e room_1 s m #[Value.ref b] below meth c H1 locs1 kc ns Q (F0 m 609 ls [.int r])) : W p l e room_1 s m #[Value.ref b] below meth c H locs kc ns Q (F0 m 606 ls [.ref h0]) := by
  obtain ⟨hx, hb, hml, hown, hts, hA, hK, hN, hE⟩ := G
  unfold ModelI at hH
  obtain ⟨a0, hH⟩ := hH
  obtain ⟨a1, hH⟩ := hH
  obtain ⟨a2, hH⟩ := hH
  obtain ⟨a3, hH⟩ := hH
  obtain ⟨a4, hH⟩ := hH
  obtain ⟨a5, hH⟩ := hH
  obtain ⟨a6, hH⟩ := hH
  obtain ⟨a7, hH⟩ := hH
  obtain ⟨a8, hH⟩ := hH
  obtain ⟨a9, hH⟩ := hH
  obtain ⟨a10, hH⟩ := hH
  obtain ⟨a12, hH⟩ := hH
  obtain ⟨a13, hH⟩ := hH
  obtain ⟨a14, hH⟩ := hH
  obtain ⟨a15, hH⟩ := hH
  obtain ⟨a16, hH⟩ := hH
  obtain ⟨a17, hH⟩ := hH
  obtain ⟨a18, hH⟩ := hH
  obtain ⟨a19, hH⟩ := hH
  obtain ⟨a20, hH⟩ := hH
  obtain ⟨a21, hH⟩ := hH
  obtain ⟨a22, hH⟩ := hH
  obtain ⟨a23, hH⟩ := hH
  obtain ⟨a24, hH⟩ := hH
  obtain ⟨a27, hH⟩ := hH
  obtain ⟨a40, hH⟩ := hH
  obtain ⟨a45, hH⟩ := hH
  obtain ⟨a48, hH⟩ := hH
  obtain ⟨a49, hH⟩ := hH
  obtain ⟨a51, hH⟩ := hH
  obtain ⟨C, hH⟩ := hH
  obtain ⟨Mn, hH⟩ := hH
  obtain ⟨kd, hH⟩ := hH
  obtain ⟨cl, hH⟩ := hH
  obtain ⟨rg, hH⟩ := hH
  obtain ⟨uv1, hH⟩ := hH
  obtain ⟨ui1, hH⟩ := hH
  obtain ⟨uv2, hH⟩ := hH
  obtain ⟨ui2, hH⟩ := hH
  obtain ⟨sk, hH⟩ := hH
  obtain ⟨ci, hH⟩ := hH
  obtain ⟨sf, hH⟩ := hH
  obtain ⟨fr, hH⟩ := hH
  obtain ⟨bf, hH⟩ := hH
  obtain ⟨nf, hH⟩ := hH
  obtain ⟨hf, hH⟩ := hH
  obtain ⟨S, hH⟩ := hH
  obtain ⟨ff, hH⟩ := hH
  obtain ⟨df, hH⟩ := hH
  obtain ⟨en, hH⟩ := hH
  obtain ⟨E, hH⟩ := hH
  obtain ⟨nw, hH⟩ := hH
  obtain ⟨mf, hH⟩ := hH
  obtain ⟨hh, hH⟩ := hH
  obtain ⟨sp, hH⟩ := hH
  obtain ⟨rt, hH⟩ := hH
  obtain ⟨cu, hH⟩ := hH
  obtain ⟨spt, hH⟩ := hH
  obtain ⟨mv, hH⟩ := hH
  obtain ⟨dn, hH⟩ := hH
  obtain ⟨mo, hH⟩ := hH
  obtain ⟨fk, hH⟩ := hH
  obtain ⟨so, hH⟩ := hH
  obtain ⟨bg, hH⟩ := hH
  obtain ⟨ten, hH⟩ := hH
  obtain ⟨wd, hH⟩ := hH
  obtain ⟨tk, hH⟩ := hH
  obtain ⟨sd, hH⟩ := hH
  obtain ⟨nb, hH⟩ := hH
  obtain ⟨np, hH⟩ := hH
  obtain ⟨pli, hH⟩ := hH
  obtain ⟨rc, hH⟩ := hH
  obtain ⟨rR, hH⟩ := hH
  obtain ⟨rW, hH⟩ := hH
  obtain ⟨rX, hH⟩ := hH
  obtain ⟨rs, hH⟩ := hH
  obtain ⟨cm, hH⟩ := hH
  obtain ⟨sno, hH⟩ := hH
  obtain ⟨htp, hH⟩ := hH
  obtain ⟨hB, hH⟩ := hH
  obtain ⟨hMo, hH⟩ := hH
  obtain ⟨hAn, hH⟩ := hH
  obtain ⟨hrs, hH⟩ := hH
  obtain ⟨hcm, hH⟩ := hH
  obtain ⟨hMP, hH⟩ := hH
  obtain ⟨hMH, hH⟩ := hH
  subst hH
  obtain ⟨e1, e2, e3, e4, e5, e6, e7, e8, e9, e10, e11, e12⟩ := id hR
  subst e1; subst e2; subst e3; subst e4; subst e5; subst e6; subst e7; subst e8; subst e9; subst e10; subst e11; subst e12
  refine gq_goi (wc := [(h0, .inr (9, [.ref a0, .ref a1, .ref a2, .ref a3, .ref a4, .ref a5, .ref a6, .ref a7, .ref a8, .ref a9, .ref a10, .int ld, .ref a12, .ref a13, .ref a14, .ref a15, .ref a16, .ref a17, .ref a18, .ref a19, .ref a20, .ref a21, .ref a22, .ref a23, .ref a24, .int (nI dn), .int mo, .ref a27, .int (nI tz), .int fk, .int fp, .int so, .int (nI bg), .int (nI ten), .long wd, .int (nI tk), .int sd, .int nb, .int np, .int pli, .ref a40, .int rc, .int rR, .int rW, .int rX, .ref a45, .int (nI rs), .int cm, .ref a48, .ref a49, .int (nI sno), .ref a51])), (a0, .inl (cI, 3, .inl (fun j => nI (C j)))), (a1, .inl (cI, 9, .inl (fun j => nI (Mn j)))), (a2, .inl (cI, 108, .inl kd)), (a3, .inl (cI, 108, .inl cl)), (a4, .inl (cI, 108, .inl rg)), (a5, .inl (cI, 108, .inl uv1)), (a6, .inl (cI, 108, .inl ui1)), (a7, .inl (cI, 108, .inl uv2)), (a8, .inl (cI, 108, .inl ui2)), (a9, .inl (cI, 108, .inl sk)), (a10, .inl (cI, 12, .inl ci)), (a12, .inl (cI, 522000, .inl sf)), (a13, .inl (cI, 9000, .inl fr)), (a14, .inl (cI, 9000, .inl bf)), (a15, .inl (cI, 9000, .inl nf)), (a16, .inl (cI, 12288, .inl hf)), (a17, .inl (cI, 3, .inl (fun j => nI (S j)))), (a18, .inl (cZ, 3, .inl ff)), (a19, .inl (cZ, 3, .inl df)), (a20, .inl (cI, 9000, .inl en)), (a21, .inl (cI, 3, .inl (fun j => nI (E j)))), (a22, .inl (cI, 58, .inl nw)), (a45, .inl (cI, 64, .inl rt))]) (wr := [(a23, .inl (cI, 58, .inl mf)), (a24, .inl (cI, 2900, .inl hh)), (a27, .inl (cB, 4000, .inl f)), (a40, .inl (cI, 12, .inl sp)), (a48, .inl (cI, 2, .inl cu)), (a49, .inl (cI, 16, .inl spt)), (a51, .inl (cI, 13, .inl (fun j => nI (mv j))))]) (va_runV (As := []) (rest := []) ⟨hx, hb, hml, hown, hts⟩ (c_race9 l D cI cB cZ h0 a0 a1 a2 a3 a4 a5 a6 a7 a8 a9 a10 a12 a13 a14 a15 a16 a17 a22 a18 a19 a20 a21 a45 (.ref a23) (.ref a24) (.int (nI dn)) (.int mo) (.ref a27) (.int (nI tz)) (.int fk) (.int fp) (.int so) (.int (nI bg)) (.int (nI ten)) (.long wd) (.int (nI tk)) (.int sd) (.int nb) (.int np) (.int pli) (.ref a40) (.int cm) (.ref a48) (.ref a49) (.int (nI sno)) (.ref a51) ld C Mn kd cl rg uv1 ui1 uv2 ui2 sk ci sf fr bf nf hf S ff df en E nw rc rR rW rX rs rt hB.1 hB.2.1 hB.2.2.2 hAn hB.2.2.1 hrs _) (cwV 0 hts gP_law__c_race9 rfl rfl rfl (by decide +kernel) ⟨Nat.le_of_ble_eq_true rfl, Nat.le_of_ble_eq_true rfl⟩) (gx_preV (ci := 9) (q0 := 0) hK gN.nil (gq_Pl hP) (gq_Dl hD) [0, 1, 2, 3, 4, 5, 6, 7, 8, 9, 10, 11, 12, 13, 14, 15, 16, 17, 18, 19, 20, 21, 22, 27] rfl rfl rfl rfl) rfl rfl hl.1 rfl (lv_room (Nat.le_of_ble_eq_true rfl)) dL_law_606 ⟨(Nat.le_trans (Nat.add_le_add_right hkb.1 _) (Nat.le_of_ble_eq_true rfl)), (Nat.le_trans (Nat.add_le_add_right hkb.2 _) (Nat.le_of_ble_eq_true rfl))⟩) hP hD hS hA [0, 1, 2, 3, 4, 5, 6, 7, 8, 9, 10, 11, 12, 13, 14, 15, 16, 17, 18, 19, 20, 21, 22, 27] [23, 24, 25, 26, 28, 29, 30] rfl rfl rfl (by decide) (fun r1 w1 H locs hp hP hD hS => ?_)
  obtain ⟨e_1, hp⟩ := hp
  obtain ⟨e_2, hp⟩ := hp
  obtain ⟨e_3, hp⟩ := hp
  obtain ⟨e_4, hp⟩ := hp
  obtain ⟨e_5, hp⟩ := hp
  obtain ⟨e_6, hp⟩ := hp
  obtain ⟨e_7, hp⟩ := hp
  obtain ⟨e_8, hp⟩ := hp
  obtain ⟨e_9, hp⟩ := hp
  obtain ⟨e_10, hp⟩ := hp
  obtain ⟨e_11, hp⟩ := hp
  obtain ⟨e_12, hp⟩ := hp
  obtain ⟨e_13, hp⟩ := hp
  obtain ⟨e_14, hp⟩ := hp
  obtain ⟨e_15, hp⟩ := hp
  obtain ⟨e_16, hp⟩ := hp
  obtain ⟨e_17, hp⟩ := hp
  obtain ⟨e_18, hp⟩ := hp
  obtain ⟨hq_19, hp⟩ := hp
  obtain ⟨hq_20, hp⟩ := hp
  obtain ⟨h9, hp⟩ := hp
  subst hp
  have h9 := h9.symm
  subst h9
  have hq_19 : ∀ t, t < 2 → gA9 t e_9 e_7 e_11 e_3 e_10 := hq_19
  have hq_20 : e_17 ≤ 63 := hq_20
  have hP : va_P D vwCl ([(a23, .inl (cI, 58, .inl mf)), (a24, .inl (cI, 2900, .inl hh)), (a27, .inl (cB, 4000, .inl f)), (a40, .inl (cI, 12, .inl sp)), (a48, .inl (cI, 2, .inl cu)), (a49, .inl (cI, 16, .inl spt)), (a51, .inl (cI, 13, .inl (fun j => nI (mv j)))), (h0, .inr (9, [.ref a0, .ref a1, .ref a2, .ref a3, .ref a4, .ref a5, .ref a6, .ref a7, .ref a8, .ref a9, .ref a10, .int ld, .ref a12, .ref a13, .ref a14, .ref a15, .ref a16, .ref a17, .ref a18, .ref a19, .ref a20, .ref a21, .ref a22, .ref a23, .ref a24, .int (nI dn), .int mo, .ref a27, .int (nI tz), .int fk, .int fp, .int so, .int (nI bg), .int (nI ten), .long wd, .int (nI tk), .int sd, .int nb, .int np, .int pli, .ref a40, .int e_13, .int e_14, .int e_15, .int e_16, .ref a45, .int (nI e_17), .int cm, .ref a48, .ref a49, .int (nI sno), .ref a51])), (a0, .inl (cI, 3, .inl (fun j => nI (C j)))), (a1, .inl (cI, 9, .inl (fun j => nI (Mn j)))), (a2, .inl (cI, 108, .inl kd)), (a3, .inl (cI, 108, .inl cl)), (a4, .inl (cI, 108, .inl rg)), (a5, .inl (cI, 108, .inl uv1)), (a6, .inl (cI, 108, .inl ui1)), (a7, .inl (cI, 108, .inl uv2)), (a8, .inl (cI, 108, .inl ui2)), (a9, .inl (cI, 108, .inl sk)), (a10, .inl (cI, 12, .inl ci)), (a12, .inl (cI, 522000, .inl e_2)), (a13, .inl (cI, 9000, .inl e_3)), (a14, .inl (cI, 9000, .inl e_4)), (a15, .inl (cI, 9000, .inl e_5)), (a16, .inl (cI, 12288, .inl e_6)), (a17, .inl (cI, 3, .inl (fun j => nI (e_7 j)))), (a18, .inl (cZ, 3, .inl e_8)), (a19, .inl (cZ, 3, .inl e_9)), (a20, .inl (cI, 9000, .inl e_10)), (a21, .inl (cI, 3, .inl (fun j => nI (e_11 j)))), (a22, .inl (cI, 58, .inl e_12)), (a45, .inl (cI, 64, .inl e_18))] ++ w9) H := hP
  have hD : va_D A ([(a23, .inl (cI, 58, .inl mf)), (a24, .inl (cI, 2900, .inl hh)), (a27, .inl (cB, 4000, .inl f)), (a40, .inl (cI, 12, .inl sp)), (a48, .inl (cI, 2, .inl cu)), (a49, .inl (cI, 16, .inl spt)), (a51, .inl (cI, 13, .inl (fun j => nI (mv j)))), (h0, .inr (9, [.ref a0, .ref a1, .ref a2, .ref a3, .ref a4, .ref a5, .ref a6, .ref a7, .ref a8, .ref a9, .ref a10, .int ld, .ref a12, .ref a13, .ref a14, .ref a15, .ref a16, .ref a17, .ref a18, .ref a19, .ref a20, .ref a21, .ref a22, .ref a23, .ref a24, .int (nI dn), .int mo, .ref a27, .int (nI tz), .int fk, .int fp, .int so, .int (nI bg), .int (nI ten), .long wd, .int (nI tk), .int sd, .int nb, .int np, .int pli, .ref a40, .int e_13, .int e_14, .int e_15, .int e_16, .ref a45, .int (nI e_17), .int cm, .ref a48, .ref a49, .int (nI sno), .ref a51])), (a0, .inl (cI, 3, .inl (fun j => nI (C j)))), (a1, .inl (cI, 9, .inl (fun j => nI (Mn j)))), (a2, .inl (cI, 108, .inl kd)), (a3, .inl (cI, 108, .inl cl)), (a4, .inl (cI, 108, .inl rg)), (a5, .inl (cI, 108, .inl uv1)), (a6, .inl (cI, 108, .inl ui1)), (a7, .inl (cI, 108, .inl uv2)), (a8, .inl (cI, 108, .inl ui2)), (a9, .inl (cI, 108, .inl sk)), (a10, .inl (cI, 12, .inl ci)), (a12, .inl (cI, 522000, .inl e_2)), (a13, .inl (cI, 9000, .inl e_3)), (a14, .inl (cI, 9000, .inl e_4)), (a15, .inl (cI, 9000, .inl e_5)), (a16, .inl (cI, 12288, .inl e_6)), (a17, .inl (cI, 3, .inl (fun j => nI (e_7 j)))), (a18, .inl (cZ, 3, .inl e_8)), (a19, .inl (cZ, 3, .inl e_9)), (a20, .inl (cI, 9000, .inl e_10)), (a21, .inl (cI, 3, .inl (fun j => nI (e_11 j)))), (a22, .inl (cI, 58, .inl e_12)), (a45, .inl (cI, 64, .inl e_18))] ++ w9) := hD
  refine W.widen (k := kc) (n := ns) (Nat.le_refl _) (Nat.le_refl _) ?_
  have hP := gq_subP (X' := [(h0, .inr (9, [.ref a0, .ref a1, .ref a2, .ref a3, .ref a4, .ref a5, .ref a6, .ref a7, .ref a8, .ref a9, .ref a10, .int ld, .ref a12, .ref a13, .ref a14, .ref a15, .ref a16, .ref a17, .ref a18, .ref a19, .ref a20, .ref a21, .ref a22, .ref a23, .ref a24, .int (nI dn), .int mo, .ref a27, .int (nI tz), .int fk, .int fp, .int so, .int (nI bg), .int (nI ten), .long wd, .int (nI tk), .int sd, .int nb, .int np, .int pli, .ref a40, .int e_13, .int e_14, .int e_15, .int e_16, .ref a45, .int (nI e_17), .int cm, .ref a48, .ref a49, .int (nI sno), .ref a51])), (a0, .inl (cI, 3, .inl (fun j => nI (C j)))), (a1, .inl (cI, 9, .inl (fun j => nI (Mn j)))), (a2, .inl (cI, 108, .inl kd)), (a3, .inl (cI, 108, .inl cl)), (a4, .inl (cI, 108, .inl rg)), (a5, .inl (cI, 108, .inl uv1)), (a6, .inl (cI, 108, .inl ui1)), (a7, .inl (cI, 108, .inl uv2)), (a8, .inl (cI, 108, .inl ui2)), (a9, .inl (cI, 108, .inl sk)), (a10, .inl (cI, 12, .inl ci)), (a12, .inl (cI, 522000, .inl e_2)), (a13, .inl (cI, 9000, .inl e_3)), (a14, .inl (cI, 9000, .inl e_4)), (a15, .inl (cI, 9000, .inl e_5)), (a16, .inl (cI, 12288, .inl e_6)), (a17, .inl (cI, 3, .inl (fun j => nI (e_7 j)))), (a18, .inl (cZ, 3, .inl e_8)), (a19, .inl (cZ, 3, .inl e_9)), (a20, .inl (cI, 9000, .inl e_10)), (a21, .inl (cI, 3, .inl (fun j => nI (e_11 j)))), (a22, .inl (cI, 58, .inl e_12)), (a23, .inl (cI, 58, .inl mf)), (a24, .inl (cI, 2900, .inl hh)), (a27, .inl (cB, 4000, .inl f)), (a40, .inl (cI, 12, .inl sp)), (a45, .inl (cI, 64, .inl e_18)), (a48, .inl (cI, 2, .inl cu)), (a49, .inl (cI, 16, .inl spt)), (a51, .inl (cI, 13, .inl (fun j => nI (mv j))))]) hP [7, 8, 9, 10, 11, 12, 13, 14, 15, 16, 17, 18, 19, 20, 21, 22, 23, 24, 25, 26, 27, 28, 29, 0, 1, 2, 3, 30, 4, 5, 6] rfl
  have hD := gq_subD (X' := [(h0, .inr (9, [.ref a0, .ref a1, .ref a2, .ref a3, .ref a4, .ref a5, .ref a6, .ref a7, .ref a8, .ref a9, .ref a10, .int ld, .ref a12, .ref a13, .ref a14, .ref a15, .ref a16, .ref a17, .ref a18, .ref a19, .ref a20, .ref a21, .ref a22, .ref a23, .ref a24, .int (nI dn), .int mo, .ref a27, .int (nI tz), .int fk, .int fp, .int so, .int (nI bg), .int (nI ten), .long wd, .int (nI tk), .int sd, .int nb, .int np, .int pli, .ref a40, .int e_13, .int e_14, .int e_15, .int e_16, .ref a45, .int (nI e_17), .int cm, .ref a48, .ref a49, .int (nI sno), .ref a51])), (a0, .inl (cI, 3, .inl (fun j => nI (C j)))), (a1, .inl (cI, 9, .inl (fun j => nI (Mn j)))), (a2, .inl (cI, 108, .inl kd)), (a3, .inl (cI, 108, .inl cl)), (a4, .inl (cI, 108, .inl rg)), (a5, .inl (cI, 108, .inl uv1)), (a6, .inl (cI, 108, .inl ui1)), (a7, .inl (cI, 108, .inl uv2)), (a8, .inl (cI, 108, .inl ui2)), (a9, .inl (cI, 108, .inl sk)), (a10, .inl (cI, 12, .inl ci)), (a12, .inl (cI, 522000, .inl e_2)), (a13, .inl (cI, 9000, .inl e_3)), (a14, .inl (cI, 9000, .inl e_4)), (a15, .inl (cI, 9000, .inl e_5)), (a16, .inl (cI, 12288, .inl e_6)), (a17, .inl (cI, 3, .inl (fun j => nI (e_7 j)))), (a18, .inl (cZ, 3, .inl e_8)), (a19, .inl (cZ, 3, .inl e_9)), (a20, .inl (cI, 9000, .inl e_10)), (a21, .inl (cI, 3, .inl (fun j => nI (e_11 j)))), (a22, .inl (cI, 58, .inl e_12)), (a23, .inl (cI, 58, .inl mf)), (a24, .inl (cI, 2900, .inl hh)), (a27, .inl (cB, 4000, .inl f)), (a40, .inl (cI, 12, .inl sp)), (a45, .inl (cI, 64, .inl e_18)), (a48, .inl (cI, 2, .inl cu)), (a49, .inl (cI, 16, .inl spt)), (a51, .inl (cI, 13, .inl (fun j => nI (mv j))))]) hD [7, 8, 9, 10, 11, 12, 13, 14, 15, 16, 17, 18, 19, 20, 21, 22, 23, 24, 25, 26, 27, 28, 29, 0, 1, 2, 3, 30, 4, 5, 6] (by decide) rfl
  exact kk e_1 _ H locs (ModelI_mk cI cB cZ h0 tz f fp ld nc L cf pf vst vk vm vd a0 a1 a2 a3 a4 a5 a6 a7 a8 a9 a10 a12 a13 a14 a15 a16 a17 a18 a19 a20 a21 a22 a23 a24 a27 a40 a45 a48 a49 a51 C Mn kd cl rg uv1 ui1 uv2 ui2 sk ci e_2 e_3 e_4 e_5 e_6 e_7 e_8 e_9 e_10 e_11 e_12 mf hh sp e_18 cu spt mv dn mo fk so bg ten wd tk sd nb np pli e_13 e_14 e_15 e_16 e_17 cm sno htp hB hMo hq_19 hq_20 hcm hMP hMH) trivial hP hD hS
set_option maxHeartbeats 4000000 in
set_option maxRecDepth 100000 in
theorem md_racer {p : Program} {l : Launch} {e : Env} {s : State} {m : MethodId} {below : List Frame} {meth : Method} {c : Code} {b : Nat} {A : Nat → Prop} {Q : State → Prop} {D : va_G} {cI cB cZ : ClassId} {K : gKS} (G : gL p s m c b A D cI cB cZ K) {H : Heap} {locs : List Loc} {ls : Array Slot} {w8 w9 : va_W} {h0 tz kc ns tz9 : Nat} {f f9 : Nat → Int32} {fp ld fp9 ld9 : Int32} {nc nc9 : Nat} {L L9 : Nat → Nat} {cf cf9 : Nat → Int32} {pf pf9 : Nat → Int32} {vst vst9 : Int32} {vk vk9 : Nat} {vm vm9 : Int32} {vd vd9 : Nat → Int32} (hkb : kc ≤ 20000 ∧ ns ≤ 2000000) (hH : ModelI cI cB cZ h0 w8 tz f fp ld nc L cf pf vst vk vm vd) (hP : va_P D vwCl (w8 ++ w9) H) (hD : va_D A (w8 ++ w9)) (hS : va_S A s.heap H locs) (hl : ls.size = 4 ∧ True) (z1 : Int32) (r8 : Int32) (hR : tz = tz9 ∧ f = f9 ∧ fp = fp9 ∧ ld = ld9 ∧ nc = nc9 ∧ L = L9 ∧ cf = cf9 ∧ pf = pf9 ∧ vst = vst9 ∧ vk = vk9 ∧ vm = vm9 ∧ vd = vd9) (kk : ∀ (r : Int32) (w8' : va_W) (H1 : Heap) (locs1 : List Loc), ModelI cI cB cZ h0 w8' tz9 f9 fp9 ld9 nc9 L9 cf9 pf9 vst9 vk9 vm9 vd9 → (True) → va_P D vwCl (w8' ++ w9) H1 → va_D A (w8' ++ w9) → va_S A s.heap H1 locs1 → W p l e room_1 s m #[Value.ref b] below meth c H1 locs1 kc ns Q (F0 m 632 ls [.int r])) : W p l e room_1 s m #[Value.ref b] below meth c H locs kc ns Q (F0 m 629 ls [.int z1, .ref h0]) := by
  obtain ⟨hx, hb, hml, hown, hts, hA, hK, hN, hE⟩ := G
  unfold ModelI at hH
  obtain ⟨a0, hH⟩ := hH
  obtain ⟨a1, hH⟩ := hH
  obtain ⟨a2, hH⟩ := hH
  obtain ⟨a3, hH⟩ := hH
  obtain ⟨a4, hH⟩ := hH
  obtain ⟨a5, hH⟩ := hH
  obtain ⟨a6, hH⟩ := hH
  obtain ⟨a7, hH⟩ := hH
  obtain ⟨a8, hH⟩ := hH
  obtain ⟨a9, hH⟩ := hH
  obtain ⟨a10, hH⟩ := hH
  obtain ⟨a12, hH⟩ := hH
  obtain ⟨a13, hH⟩ := hH
  obtain ⟨a14, hH⟩ := hH
  obtain ⟨a15, hH⟩ := hH
  obtain ⟨a16, hH⟩ := hH
  obtain ⟨a17, hH⟩ := hH
  obtain ⟨a18, hH⟩ := hH
  obtain ⟨a19, hH⟩ := hH
  obtain ⟨a20, hH⟩ := hH
  obtain ⟨a21, hH⟩ := hH
  obtain ⟨a22, hH⟩ := hH
  obtain ⟨a23, hH⟩ := hH
  obtain ⟨a24, hH⟩ := hH
  obtain ⟨a27, hH⟩ := hH
  obtain ⟨a40, hH⟩ := hH
  obtain ⟨a45, hH⟩ := hH
  obtain ⟨a48, hH⟩ := hH
  obtain ⟨a49, hH⟩ := hH
  obtain ⟨a51, hH⟩ := hH
  obtain ⟨C, hH⟩ := hH
  obtain ⟨Mn, hH⟩ := hH
  obtain ⟨kd, hH⟩ := hH
  obtain ⟨cl, hH⟩ := hH
  obtain ⟨rg, hH⟩ := hH
  obtain ⟨uv1, hH⟩ := hH
  obtain ⟨ui1, hH⟩ := hH
  obtain ⟨uv2, hH⟩ := hH
  obtain ⟨ui2, hH⟩ := hH
  obtain ⟨sk, hH⟩ := hH
  obtain ⟨ci, hH⟩ := hH
  obtain ⟨sf, hH⟩ := hH
  obtain ⟨fr, hH⟩ := hH
  obtain ⟨bf, hH⟩ := hH
  obtain ⟨nf, hH⟩ := hH
  obtain ⟨hf, hH⟩ := hH
  obtain ⟨S, hH⟩ := hH
  obtain ⟨ff, hH⟩ := hH
  obtain ⟨df, hH⟩ := hH
  obtain ⟨en, hH⟩ := hH
  obtain ⟨E, hH⟩ := hH
  obtain ⟨nw, hH⟩ := hH
  obtain ⟨mf, hH⟩ := hH
  obtain ⟨hh, hH⟩ := hH
  obtain ⟨sp, hH⟩ := hH
  obtain ⟨rt, hH⟩ := hH
  obtain ⟨cu, hH⟩ := hH
  obtain ⟨spt, hH⟩ := hH
  obtain ⟨mv, hH⟩ := hH
  obtain ⟨dn, hH⟩ := hH
  obtain ⟨mo, hH⟩ := hH
  obtain ⟨fk, hH⟩ := hH
  obtain ⟨so, hH⟩ := hH
  obtain ⟨bg, hH⟩ := hH
  obtain ⟨ten, hH⟩ := hH
  obtain ⟨wd, hH⟩ := hH
  obtain ⟨tk, hH⟩ := hH
  obtain ⟨sd, hH⟩ := hH
  obtain ⟨nb, hH⟩ := hH
  obtain ⟨np, hH⟩ := hH
  obtain ⟨pli, hH⟩ := hH
  obtain ⟨rc, hH⟩ := hH
  obtain ⟨rR, hH⟩ := hH
  obtain ⟨rW, hH⟩ := hH
  obtain ⟨rX, hH⟩ := hH
  obtain ⟨rs, hH⟩ := hH
  obtain ⟨cm, hH⟩ := hH
  obtain ⟨sno, hH⟩ := hH
  obtain ⟨htp, hH⟩ := hH
  obtain ⟨hB, hH⟩ := hH
  obtain ⟨hMo, hH⟩ := hH
  obtain ⟨hAn, hH⟩ := hH
  obtain ⟨hrs, hH⟩ := hH
  obtain ⟨hcm, hH⟩ := hH
  obtain ⟨hMP, hH⟩ := hH
  obtain ⟨hMH, hH⟩ := hH
  subst hH
  obtain ⟨e1, e2, e3, e4, e5, e6, e7, e8, e9, e10, e11, e12⟩ := id hR
  subst e1; subst e2; subst e3; subst e4; subst e5; subst e6; subst e7; subst e8; subst e9; subst e10; subst e11; subst e12
  refine gq_goi (wc := [(h0, .inr (9, [.ref a0, .ref a1, .ref a2, .ref a3, .ref a4, .ref a5, .ref a6, .ref a7, .ref a8, .ref a9, .ref a10, .int ld, .ref a12, .ref a13, .ref a14, .ref a15, .ref a16, .ref a17, .ref a18, .ref a19, .ref a20, .ref a21, .ref a22, .ref a23, .ref a24, .int (nI dn), .int mo, .ref a27, .int (nI tz), .int fk, .int fp, .int so, .int (nI bg), .int (nI ten), .long wd, .int (nI tk), .int sd, .int nb, .int np, .int pli, .ref a40, .int rc, .int rR, .int rW, .int rX, .ref a45, .int (nI rs), .int cm, .ref a48, .ref a49, .int (nI sno), .ref a51])), (a0, .inl (cI, 3, .inl (fun j => nI (C j)))), (a1, .inl (cI, 9, .inl (fun j => nI (Mn j)))), (a2, .inl (cI, 108, .inl kd)), (a3, .inl (cI, 108, .inl cl)), (a4, .inl (cI, 108, .inl rg)), (a5, .inl (cI, 108, .inl uv1)), (a6, .inl (cI, 108, .inl ui1)), (a7, .inl (cI, 108, .inl uv2)), (a8, .inl (cI, 108, .inl ui2)), (a9, .inl (cI, 108, .inl sk)), (a10, .inl (cI, 12, .inl ci)), (a12, .inl (cI, 522000, .inl sf)), (a13, .inl (cI, 9000, .inl fr)), (a14, .inl (cI, 9000, .inl bf)), (a15, .inl (cI, 9000, .inl nf)), (a16, .inl (cI, 12288, .inl hf)), (a17, .inl (cI, 3, .inl (fun j => nI (S j)))), (a18, .inl (cZ, 3, .inl ff)), (a19, .inl (cZ, 3, .inl df)), (a20, .inl (cI, 9000, .inl en)), (a21, .inl (cI, 3, .inl (fun j => nI (E j)))), (a22, .inl (cI, 58, .inl nw)), (a45, .inl (cI, 64, .inl rt))]) (wr := [(a23, .inl (cI, 58, .inl mf)), (a24, .inl (cI, 2900, .inl hh)), (a27, .inl (cB, 4000, .inl f)), (a40, .inl (cI, 12, .inl sp)), (a48, .inl (cI, 2, .inl cu)), (a49, .inl (cI, 16, .inl spt)), (a51, .inl (cI, 13, .inl (fun j => nI (mv j))))]) (va_runV (As := [.int z1]) (rest := []) ⟨hx, hb, hml, hown, hts⟩ (c_racer9 l D cI cB cZ h0 a0 a1 a2 a3 a4 a5 a6 a7 a8 a9 a10 a12 a13 a14 a15 a16 a17 a22 a18 a19 a20 a21 a45 (.ref a23) (.ref a24) (.int (nI dn)) (.int mo) (.ref a27) (.int (nI tz)) (.int fk) (.int fp) (.int so) (.int (nI bg)) (.int (nI ten)) (.long wd) (.int (nI tk)) (.int sd) (.int nb) (.int np) (.int pli) (.ref a40) (.int cm) (.ref a48) (.ref a49) (.int (nI sno)) (.ref a51) ld C Mn kd cl rg uv1 ui1 uv2 ui2 sk ci sf fr bf nf hf S ff df en E nw rc rR rW rX rs rt z1 hB.1 hB.2.1 hB.2.2.2 hAn hB.2.2.1 hrs _) (cwV 1 hts gP_law__c_racer9 rfl rfl rfl (by decide +kernel) ⟨Nat.le_of_ble_eq_true rfl, Nat.le_of_ble_eq_true rfl⟩) (gx_preV (ci := 9) (q0 := 0) hK gN.nil (gq_Pl hP) (gq_Dl hD) [0, 1, 2, 3, 4, 5, 6, 7, 8, 9, 10, 11, 12, 13, 14, 15, 16, 17, 18, 19, 20, 21, 22, 27] rfl rfl rfl rfl) rfl rfl hl.1 rfl (lv_room (Nat.le_of_ble_eq_true rfl)) dL_law_629 ⟨(Nat.le_trans (Nat.add_le_add_right hkb.1 _) (Nat.le_of_ble_eq_true rfl)), (Nat.le_trans (Nat.add_le_add_right hkb.2 _) (Nat.le_of_ble_eq_true rfl))⟩) hP hD hS hA [0, 1, 2, 3, 4, 5, 6, 7, 8, 9, 10, 11, 12, 13, 14, 15, 16, 17, 18, 19, 20, 21, 22, 27] [23, 24, 25, 26, 28, 29, 30] rfl rfl rfl (by decide) (fun r1 w1 H locs hp hP hD hS => ?_)
  obtain ⟨e_1, hp⟩ := hp
  obtain ⟨e_2, hp⟩ := hp
  obtain ⟨e_3, hp⟩ := hp
  obtain ⟨e_4, hp⟩ := hp
  obtain ⟨e_5, hp⟩ := hp
  obtain ⟨e_6, hp⟩ := hp
  obtain ⟨e_7, hp⟩ := hp
  obtain ⟨e_8, hp⟩ := hp
  obtain ⟨e_9, hp⟩ := hp
  obtain ⟨e_10, hp⟩ := hp
  obtain ⟨e_11, hp⟩ := hp
  obtain ⟨e_12, hp⟩ := hp
  obtain ⟨e_13, hp⟩ := hp
  obtain ⟨e_14, hp⟩ := hp
  obtain ⟨e_15, hp⟩ := hp
  obtain ⟨e_16, hp⟩ := hp
  obtain ⟨e_17, hp⟩ := hp
  obtain ⟨e_18, hp⟩ := hp
  obtain ⟨hq_19, hp⟩ := hp
  obtain ⟨hq_20, hp⟩ := hp
  obtain ⟨h9, hp⟩ := hp
  subst hp
  have h9 := h9.symm
  subst h9
  have hq_19 : ∀ t, t < 2 → gA9 t e_9 e_7 e_11 e_3 e_10 := hq_19
  have hq_20 : e_17 ≤ 63 := hq_20
  have hP : va_P D vwCl ([(a23, .inl (cI, 58, .inl mf)), (a24, .inl (cI, 2900, .inl hh)), (a27, .inl (cB, 4000, .inl f)), (a40, .inl (cI, 12, .inl sp)), (a48, .inl (cI, 2, .inl cu)), (a49, .inl (cI, 16, .inl spt)), (a51, .inl (cI, 13, .inl (fun j => nI (mv j)))), (h0, .inr (9, [.ref a0, .ref a1, .ref a2, .ref a3, .ref a4, .ref a5, .ref a6, .ref a7, .ref a8, .ref a9, .ref a10, .int ld, .ref a12, .ref a13, .ref a14, .ref a15, .ref a16, .ref a17, .ref a18, .ref a19, .ref a20, .ref a21, .ref a22, .ref a23, .ref a24, .int (nI dn), .int mo, .ref a27, .int (nI tz), .int fk, .int fp, .int so, .int (nI bg), .int (nI ten), .long wd, .int (nI tk), .int sd, .int nb, .int np, .int pli, .ref a40, .int e_13, .int e_14, .int e_15, .int e_16, .ref a45, .int (nI e_17), .int cm, .ref a48, .ref a49, .int (nI sno), .ref a51])), (a0, .inl (cI, 3, .inl (fun j => nI (C j)))), (a1, .inl (cI, 9, .inl (fun j => nI (Mn j)))), (a2, .inl (cI, 108, .inl kd)), (a3, .inl (cI, 108, .inl cl)), (a4, .inl (cI, 108, .inl rg)), (a5, .inl (cI, 108, .inl uv1)), (a6, .inl (cI, 108, .inl ui1)), (a7, .inl (cI, 108, .inl uv2)), (a8, .inl (cI, 108, .inl ui2)), (a9, .inl (cI, 108, .inl sk)), (a10, .inl (cI, 12, .inl ci)), (a12, .inl (cI, 522000, .inl e_2)), (a13, .inl (cI, 9000, .inl e_3)), (a14, .inl (cI, 9000, .inl e_4)), (a15, .inl (cI, 9000, .inl e_5)), (a16, .inl (cI, 12288, .inl e_6)), (a17, .inl (cI, 3, .inl (fun j => nI (e_7 j)))), (a18, .inl (cZ, 3, .inl e_8)), (a19, .inl (cZ, 3, .inl e_9)), (a20, .inl (cI, 9000, .inl e_10)), (a21, .inl (cI, 3, .inl (fun j => nI (e_11 j)))), (a22, .inl (cI, 58, .inl e_12)), (a45, .inl (cI, 64, .inl e_18))] ++ w9) H := hP
  have hD : va_D A ([(a23, .inl (cI, 58, .inl mf)), (a24, .inl (cI, 2900, .inl hh)), (a27, .inl (cB, 4000, .inl f)), (a40, .inl (cI, 12, .inl sp)), (a48, .inl (cI, 2, .inl cu)), (a49, .inl (cI, 16, .inl spt)), (a51, .inl (cI, 13, .inl (fun j => nI (mv j)))), (h0, .inr (9, [.ref a0, .ref a1, .ref a2, .ref a3, .ref a4, .ref a5, .ref a6, .ref a7, .ref a8, .ref a9, .ref a10, .int ld, .ref a12, .ref a13, .ref a14, .ref a15, .ref a16, .ref a17, .ref a18, .ref a19, .ref a20, .ref a21, .ref a22, .ref a23, .ref a24, .int (nI dn), .int mo, .ref a27, .int (nI tz), .int fk, .int fp, .int so, .int (nI bg), .int (nI ten), .long wd, .int (nI tk), .int sd, .int nb, .int np, .int pli, .ref a40, .int e_13, .int e_14, .int e_15, .int e_16, .ref a45, .int (nI e_17), .int cm, .ref a48, .ref a49, .int (nI sno), .ref a51])), (a0, .inl (cI, 3, .inl (fun j => nI (C j)))), (a1, .inl (cI, 9, .inl (fun j => nI (Mn j)))), (a2, .inl (cI, 108, .inl kd)), (a3, .inl (cI, 108, .inl cl)), (a4, .inl (cI, 108, .inl rg)), (a5, .inl (cI, 108, .inl uv1)), (a6, .inl (cI, 108, .inl ui1)), (a7, .inl (cI, 108, .inl uv2)), (a8, .inl (cI, 108, .inl ui2)), (a9, .inl (cI, 108, .inl sk)), (a10, .inl (cI, 12, .inl ci)), (a12, .inl (cI, 522000, .inl e_2)), (a13, .inl (cI, 9000, .inl e_3)), (a14, .inl (cI, 9000, .inl e_4)), (a15, .inl (cI, 9000, .inl e_5)), (a16, .inl (cI, 12288, .inl e_6)), (a17, .inl (cI, 3, .inl (fun j => nI (e_7 j)))), (a18, .inl (cZ, 3, .inl e_8)), (a19, .inl (cZ, 3, .inl e_9)), (a20, .inl (cI, 9000, .inl e_10)), (a21, .inl (cI, 3, .inl (fun j => nI (e_11 j)))), (a22, .inl (cI, 58, .inl e_12)), (a45, .inl (cI, 64, .inl e_18))] ++ w9) := hD
  refine W.widen (k := kc) (n := ns) (Nat.le_refl _) (Nat.le_refl _) ?_
  have hP := gq_subP (X' := [(h0, .inr (9, [.ref a0, .ref a1, .ref a2, .ref a3, .ref a4, .ref a5, .ref a6, .ref a7, .ref a8, .ref a9, .ref a10, .int ld, .ref a12, .ref a13, .ref a14, .ref a15, .ref a16, .ref a17, .ref a18, .ref a19, .ref a20, .ref a21, .ref a22, .ref a23, .ref a24, .int (nI dn), .int mo, .ref a27, .int (nI tz), .int fk, .int fp, .int so, .int (nI bg), .int (nI ten), .long wd, .int (nI tk), .int sd, .int nb, .int np, .int pli, .ref a40, .int e_13, .int e_14, .int e_15, .int e_16, .ref a45, .int (nI e_17), .int cm, .ref a48, .ref a49, .int (nI sno), .ref a51])), (a0, .inl (cI, 3, .inl (fun j => nI (C j)))), (a1, .inl (cI, 9, .inl (fun j => nI (Mn j)))), (a2, .inl (cI, 108, .inl kd)), (a3, .inl (cI, 108, .inl cl)), (a4, .inl (cI, 108, .inl rg)), (a5, .inl (cI, 108, .inl uv1)), (a6, .inl (cI, 108, .inl ui1)), (a7, .inl (cI, 108, .inl uv2)), (a8, .inl (cI, 108, .inl ui2)), (a9, .inl (cI, 108, .inl sk)), (a10, .inl (cI, 12, .inl ci)), (a12, .inl (cI, 522000, .inl e_2)), (a13, .inl (cI, 9000, .inl e_3)), (a14, .inl (cI, 9000, .inl e_4)), (a15, .inl (cI, 9000, .inl e_5)), (a16, .inl (cI, 12288, .inl e_6)), (a17, .inl (cI, 3, .inl (fun j => nI (e_7 j)))), (a18, .inl (cZ, 3, .inl e_8)), (a19, .inl (cZ, 3, .inl e_9)), (a20, .inl (cI, 9000, .inl e_10)), (a21, .inl (cI, 3, .inl (fun j => nI (e_11 j)))), (a22, .inl (cI, 58, .inl e_12)), (a23, .inl (cI, 58, .inl mf)), (a24, .inl (cI, 2900, .inl hh)), (a27, .inl (cB, 4000, .inl f)), (a40, .inl (cI, 12, .inl sp)), (a45, .inl (cI, 64, .inl e_18)), (a48, .inl (cI, 2, .inl cu)), (a49, .inl (cI, 16, .inl spt)), (a51, .inl (cI, 13, .inl (fun j => nI (mv j))))]) hP [7, 8, 9, 10, 11, 12, 13, 14, 15, 16, 17, 18, 19, 20, 21, 22, 23, 24, 25, 26, 27, 28, 29, 0, 1, 2, 3, 30, 4, 5, 6] rfl
  have hD := gq_subD (X' := [(h0, .inr (9, [.ref a0, .ref a1, .ref a2, .ref a3, .ref a4, .ref a5, .ref a6, .ref a7, .ref a8, .ref a9, .ref a10, .int ld, .ref a12, .ref a13, .ref a14, .ref a15, .ref a16, .ref a17, .ref a18, .ref a19, .ref a20, .ref a21, .ref a22, .ref a23, .ref a24, .int (nI dn), .int mo, .ref a27, .int (nI tz), .int fk, .int fp, .int so, .int (nI bg), .int (nI ten), .long wd, .int (nI tk), .int sd, .int nb, .int np, .int pli, .ref a40, .int e_13, .int e_14, .int e_15, .int e_16, .ref a45, .int (nI e_17), .int cm, .ref a48, .ref a49, .int (nI sno), .ref a51])), (a0, .inl (cI, 3, .inl (fun j => nI (C j)))), (a1, .inl (cI, 9, .inl (fun j => nI (Mn j)))), (a2, .inl (cI, 108, .inl kd)), (a3, .inl (cI, 108, .inl cl)), (a4, .inl (cI, 108, .inl rg)), (a5, .inl (cI, 108, .inl uv1)), (a6, .inl (cI, 108, .inl ui1)), (a7, .inl (cI, 108, .inl uv2)), (a8, .inl (cI, 108, .inl ui2)), (a9, .inl (cI, 108, .inl sk)), (a10, .inl (cI, 12, .inl ci)), (a12, .inl (cI, 522000, .inl e_2)), (a13, .inl (cI, 9000, .inl e_3)), (a14, .inl (cI, 9000, .inl e_4)), (a15, .inl (cI, 9000, .inl e_5)), (a16, .inl (cI, 12288, .inl e_6)), (a17, .inl (cI, 3, .inl (fun j => nI (e_7 j)))), (a18, .inl (cZ, 3, .inl e_8)), (a19, .inl (cZ, 3, .inl e_9)), (a20, .inl (cI, 9000, .inl e_10)), (a21, .inl (cI, 3, .inl (fun j => nI (e_11 j)))), (a22, .inl (cI, 58, .inl e_12)), (a23, .inl (cI, 58, .inl mf)), (a24, .inl (cI, 2900, .inl hh)), (a27, .inl (cB, 4000, .inl f)), (a40, .inl (cI, 12, .inl sp)), (a45, .inl (cI, 64, .inl e_18)), (a48, .inl (cI, 2, .inl cu)), (a49, .inl (cI, 16, .inl spt)), (a51, .inl (cI, 13, .inl (fun j => nI (mv j))))]) hD [7, 8, 9, 10, 11, 12, 13, 14, 15, 16, 17, 18, 19, 20, 21, 22, 23, 24, 25, 26, 27, 28, 29, 0, 1, 2, 3, 30, 4, 5, 6] (by decide) rfl
  exact kk e_1 _ H locs (ModelI_mk cI cB cZ h0 tz f fp ld nc L cf pf vst vk vm vd a0 a1 a2 a3 a4 a5 a6 a7 a8 a9 a10 a12 a13 a14 a15 a16 a17 a18 a19 a20 a21 a22 a23 a24 a27 a40 a45 a48 a49 a51 C Mn kd cl rg uv1 ui1 uv2 ui2 sk ci e_2 e_3 e_4 e_5 e_6 e_7 e_8 e_9 e_10 e_11 e_12 mf hh sp e_18 cu spt mv dn mo fk so bg ten wd tk sd nb np pli e_13 e_14 e_15 e_16 e_17 cm sno htp hB hMo hq_19 hq_20 hcm hMP hMH) trivial hP hD hS
set_option maxHeartbeats 4000000 in
set_option maxRecDepth 100000 in
theorem md_cure {p : Program} {l : Launch} {e : Env} {s : State} {m : MethodId} {below : List Frame} {meth : Method} {c : Code} {b : Nat} {A : Nat → Prop} {Q : State → Prop} {D : va_G} {cI cB cZ : ClassId} {K : gKS} (G : gL p s m c b A D cI cB cZ K) {H : Heap} {locs : List Loc} {ls : Array Slot} {w8 w9 : va_W} {h0 tz kc ns tz9 : Nat} {f f9 : Nat → Int32} {fp ld fp9 ld9 : Int32} {nc nc9 : Nat} {L L9 : Nat → Nat} {cf cf9 : Nat → Int32} {pf pf9 : Nat → Int32} {vst vst9 : Int32} {vk vk9 : Nat} {vm vm9 : Int32} {vd vd9 : Nat → Int32} (hkb : kc ≤ 20000 ∧ ns ≤ 2000000) (hH : ModelI cI cB cZ h0 w8 tz f fp ld nc L cf pf vst vk vm vd) (hP : va_P D vwCl (w8 ++ w9) H) (hD : va_D A (w8 ++ w9)) (hS : va_S A s.heap H locs) (hl : ls.size = 4 ∧ True) (z1 : Int32) (r8 : Int32) (hR : tz = tz9 ∧ f = f9 ∧ fp = fp9 ∧ ld = ld9 ∧ nc = nc9 ∧ L = L9 ∧ cf = cf9 ∧ pf = pf9 ∧ vst = vst9 ∧ vk = vk9 ∧ vm = vm9 ∧ vd = vd9) (kk : ∀ (r : Int32) (w8' : va_W) (H1 : Heap) (locs1 : List Loc), ModelI cI cB cZ h0 w8' tz9 f9 fp9 ld9 nc9 L9 cf9 pf9 vst9 vk9 vm9 vd9 → (True) → va_P D vwCl (w8' ++ w9) H1 → va_D A (w8' ++ w9) → va_S A s.heap H1 locs1 → W p l e room_1 s m #[Value.ref b] below meth c H1 locs1 kc ns Q (F0 m 655 ls [.int r])) : W p l e room_1 s m #[Value.ref b] below meth c H locs kc ns Q (F0 m 652 ls [.int z1, .ref h0]) := by
  obtain ⟨hx, hb, hml, hown, hts, hA, hK, hN, hE⟩ := G
  unfold ModelI at hH
  obtain ⟨a0, hH⟩ := hH
  obtain ⟨a1, hH⟩ := hH
  obtain ⟨a2, hH⟩ := hH
  obtain ⟨a3, hH⟩ := hH
  obtain ⟨a4, hH⟩ := hH
  obtain ⟨a5, hH⟩ := hH
  obtain ⟨a6, hH⟩ := hH
  obtain ⟨a7, hH⟩ := hH
  obtain ⟨a8, hH⟩ := hH
  obtain ⟨a9, hH⟩ := hH
  obtain ⟨a10, hH⟩ := hH
  obtain ⟨a12, hH⟩ := hH
  obtain ⟨a13, hH⟩ := hH
  obtain ⟨a14, hH⟩ := hH
  obtain ⟨a15, hH⟩ := hH
  obtain ⟨a16, hH⟩ := hH
  obtain ⟨a17, hH⟩ := hH
  obtain ⟨a18, hH⟩ := hH
  obtain ⟨a19, hH⟩ := hH
  obtain ⟨a20, hH⟩ := hH
  obtain ⟨a21, hH⟩ := hH
  obtain ⟨a22, hH⟩ := hH
  obtain ⟨a23, hH⟩ := hH
  obtain ⟨a24, hH⟩ := hH
  obtain ⟨a27, hH⟩ := hH
  obtain ⟨a40, hH⟩ := hH
  obtain ⟨a45, hH⟩ := hH
  obtain ⟨a48, hH⟩ := hH
  obtain ⟨a49, hH⟩ := hH
  obtain ⟨a51, hH⟩ := hH
  obtain ⟨C, hH⟩ := hH
  obtain ⟨Mn, hH⟩ := hH
  obtain ⟨kd, hH⟩ := hH
  obtain ⟨cl, hH⟩ := hH
  obtain ⟨rg, hH⟩ := hH
  obtain ⟨uv1, hH⟩ := hH
  obtain ⟨ui1, hH⟩ := hH
  obtain ⟨uv2, hH⟩ := hH
  obtain ⟨ui2, hH⟩ := hH
  obtain ⟨sk, hH⟩ := hH
  obtain ⟨ci, hH⟩ := hH
  obtain ⟨sf, hH⟩ := hH
  obtain ⟨fr, hH⟩ := hH
  obtain ⟨bf, hH⟩ := hH
  obtain ⟨nf, hH⟩ := hH
  obtain ⟨hf, hH⟩ := hH
  obtain ⟨S, hH⟩ := hH
  obtain ⟨ff, hH⟩ := hH
  obtain ⟨df, hH⟩ := hH
  obtain ⟨en, hH⟩ := hH
  obtain ⟨E, hH⟩ := hH
  obtain ⟨nw, hH⟩ := hH
  obtain ⟨mf, hH⟩ := hH
  obtain ⟨hh, hH⟩ := hH
  obtain ⟨sp, hH⟩ := hH
  obtain ⟨rt, hH⟩ := hH
  obtain ⟨cu, hH⟩ := hH
  obtain ⟨spt, hH⟩ := hH
  obtain ⟨mv, hH⟩ := hH
  obtain ⟨dn, hH⟩ := hH
  obtain ⟨mo, hH⟩ := hH
  obtain ⟨fk, hH⟩ := hH
  obtain ⟨so, hH⟩ := hH
  obtain ⟨bg, hH⟩ := hH
  obtain ⟨ten, hH⟩ := hH
  obtain ⟨wd, hH⟩ := hH
  obtain ⟨tk, hH⟩ := hH
  obtain ⟨sd, hH⟩ := hH
  obtain ⟨nb, hH⟩ := hH
  obtain ⟨np, hH⟩ := hH
  obtain ⟨pli, hH⟩ := hH
  obtain ⟨rc, hH⟩ := hH
  obtain ⟨rR, hH⟩ := hH
  obtain ⟨rW, hH⟩ := hH
  obtain ⟨rX, hH⟩ := hH
  obtain ⟨rs, hH⟩ := hH
  obtain ⟨cm, hH⟩ := hH
  obtain ⟨sno, hH⟩ := hH
  obtain ⟨htp, hH⟩ := hH
  obtain ⟨hB, hH⟩ := hH
  obtain ⟨hMo, hH⟩ := hH
  obtain ⟨hAn, hH⟩ := hH
  obtain ⟨hrs, hH⟩ := hH
  obtain ⟨hcm, hH⟩ := hH
  obtain ⟨hMP, hH⟩ := hH
  obtain ⟨hMH, hH⟩ := hH
  subst hH
  obtain ⟨e1, e2, e3, e4, e5, e6, e7, e8, e9, e10, e11, e12⟩ := id hR
  subst e1; subst e2; subst e3; subst e4; subst e5; subst e6; subst e7; subst e8; subst e9; subst e10; subst e11; subst e12
  refine gq_goi (wc := [(h0, .inr (9, [.ref a0, .ref a1, .ref a2, .ref a3, .ref a4, .ref a5, .ref a6, .ref a7, .ref a8, .ref a9, .ref a10, .int ld, .ref a12, .ref a13, .ref a14, .ref a15, .ref a16, .ref a17, .ref a18, .ref a19, .ref a20, .ref a21, .ref a22, .ref a23, .ref a24, .int (nI dn), .int mo, .ref a27, .int (nI tz), .int fk, .int fp, .int so, .int (nI bg), .int (nI ten), .long wd, .int (nI tk), .int sd, .int nb, .int np, .int pli, .ref a40, .int rc, .int rR, .int rW, .int rX, .ref a45, .int (nI rs), .int cm, .ref a48, .ref a49, .int (nI sno), .ref a51])), (a0, .inl (cI, 3, .inl (fun j => nI (C j)))), (a1, .inl (cI, 9, .inl (fun j => nI (Mn j)))), (a2, .inl (cI, 108, .inl kd)), (a3, .inl (cI, 108, .inl cl)), (a4, .inl (cI, 108, .inl rg)), (a5, .inl (cI, 108, .inl uv1)), (a6, .inl (cI, 108, .inl ui1)), (a7, .inl (cI, 108, .inl uv2)), (a8, .inl (cI, 108, .inl ui2)), (a9, .inl (cI, 108, .inl sk)), (a10, .inl (cI, 12, .inl ci)), (a12, .inl (cI, 522000, .inl sf)), (a13, .inl (cI, 9000, .inl fr)), (a14, .inl (cI, 9000, .inl bf)), (a15, .inl (cI, 9000, .inl nf)), (a16, .inl (cI, 12288, .inl hf)), (a17, .inl (cI, 3, .inl (fun j => nI (S j)))), (a18, .inl (cZ, 3, .inl ff)), (a19, .inl (cZ, 3, .inl df)), (a20, .inl (cI, 9000, .inl en)), (a21, .inl (cI, 3, .inl (fun j => nI (E j)))), (a22, .inl (cI, 58, .inl nw)), (a51, .inl (cI, 13, .inl (fun j => nI (mv j)))), (a48, .inl (cI, 2, .inl cu)), (a49, .inl (cI, 16, .inl spt))]) (wr := [(a23, .inl (cI, 58, .inl mf)), (a24, .inl (cI, 2900, .inl hh)), (a27, .inl (cB, 4000, .inl f)), (a40, .inl (cI, 12, .inl sp)), (a45, .inl (cI, 64, .inl rt))]) (va_runV (As := [.int z1]) (rest := []) ⟨hx, hb, hml, hown, hts⟩ (x_cure9 l D cI cB cZ h0 a0 a1 a2 a3 a4 a5 a6 a7 a8 a9 a10 a12 a13 a14 a15 a16 a17 a22 a18 a19 a20 a21 a51 a48 a49 (.ref a23) (.ref a24) (.int (nI dn)) (.int mo) (.ref a27) (.int (nI tz)) (.int fk) (.int fp) (.int so) (.int (nI bg)) (.int (nI ten)) (.long wd) (.int (nI tk)) (.int sd) (.int nb) (.int np) (.int pli) (.ref a40) (.int rc) (.int rR) (.int rW) (.int rX) (.ref a45) (.int (nI rs)) ci ld C Mn kd cl rg uv1 ui1 uv2 ui2 sk sf fr bf nf hf S ff df en E nw mv cm sno cu spt z1 hB hAn hcm _) (cwV 1 hts gP_law__x_cure9 rfl rfl rfl (by decide +kernel) ⟨Nat.le_of_ble_eq_true rfl, Nat.le_of_ble_eq_true rfl⟩) (gx_preV (ci := 9) (q0 := 0) hK gN.nil (gq_Pl hP) (gq_Dl hD) [0, 1, 2, 3, 4, 5, 6, 7, 8, 9, 10, 11, 12, 13, 14, 15, 16, 17, 18, 19, 20, 21, 22, 30, 28, 29] rfl rfl rfl rfl) rfl rfl hl.1 rfl (lv_room (Nat.le_of_ble_eq_true rfl)) dL_law_652 ⟨(Nat.le_trans (Nat.add_le_add_right hkb.1 _) (Nat.le_of_ble_eq_true rfl)), (Nat.le_trans (Nat.add_le_add_right hkb.2 _) (Nat.le_of_ble_eq_true rfl))⟩) hP hD hS hA [0, 1, 2, 3, 4, 5, 6, 7, 8, 9, 10, 11, 12, 13, 14, 15, 16, 17, 18, 19, 20, 21, 22, 30, 28, 29] [23, 24, 25, 26, 27] rfl rfl rfl (by decide) (fun r1 w1 H locs hp hP hD hS => ?_)
  obtain ⟨e_1, hp⟩ := hp
  obtain ⟨e_2, hp⟩ := hp
  obtain ⟨e_3, hp⟩ := hp
  obtain ⟨e_4, hp⟩ := hp
  obtain ⟨e_5, hp⟩ := hp
  obtain ⟨e_6, hp⟩ := hp
  obtain ⟨e_7, hp⟩ := hp
  obtain ⟨e_8, hp⟩ := hp
  obtain ⟨e_9, hp⟩ := hp
  obtain ⟨e_10, hp⟩ := hp
  obtain ⟨e_11, hp⟩ := hp
  obtain ⟨e_12, hp⟩ := hp
  obtain ⟨e_13, hp⟩ := hp
  obtain ⟨e_14, hp⟩ := hp
  obtain ⟨e_15, hp⟩ := hp
  obtain ⟨e_16, hp⟩ := hp
  obtain ⟨e_17, hp⟩ := hp
  obtain ⟨e_18, hp⟩ := hp
  obtain ⟨e_19, hp⟩ := hp
  obtain ⟨e_20, hp⟩ := hp
  obtain ⟨e_21, hp⟩ := hp
  obtain ⟨e_22, hp⟩ := hp
  obtain ⟨e_23, hp⟩ := hp
  obtain ⟨e_24, hp⟩ := hp
  obtain ⟨e_25, hp⟩ := hp
  obtain ⟨e_26, hp⟩ := hp
  obtain ⟨e_27, hp⟩ := hp
  obtain ⟨hq_28, hp⟩ := hp
  obtain ⟨hq_29, hp⟩ := hp
  obtain ⟨hq_30, hp⟩ := hp
  obtain ⟨hq_31, hp⟩ := hp
  obtain ⟨hx652_0, hp⟩ := hp
  obtain ⟨h9, hp⟩ := hp
  subst hp
  have h9 := h9.symm
  subst h9
  have hq_28 : gB9 e_2 e_3 e_4 e_5 e_6 e_7 e_9 e_11 := hq_28
  have hq_29 : ∀ t, t < 2 → gA9 t e_19 e_17 e_21 e_13 e_20 := hq_29
  have hq_30 : gSm kd e_4 C e_2 Mn e_3 := hq_30
  have hq_31 : gF3 e_24 := hq_31
  have hx652_0 : gS8 kd cl rg uv1 ui1 uv2 ui2 sk e_4 e_5 e_6 e_7 e_8 e_9 e_10 e_11 := hx652_0
  have hP : va_P D vwCl ([(a23, .inl (cI, 58, .inl mf)), (a24, .inl (cI, 2900, .inl hh)), (a27, .inl (cB, 4000, .inl f)), (a40, .inl (cI, 12, .inl sp)), (a45, .inl (cI, 64, .inl rt)), (h0, .inr (9, [.ref a0, .ref a1, .ref a2, .ref a3, .ref a4, .ref a5, .ref a6, .ref a7, .ref a8, .ref a9, .ref a10, .int ld, .ref a12, .ref a13, .ref a14, .ref a15, .ref a16, .ref a17, .ref a18, .ref a19, .ref a20, .ref a21, .ref a22, .ref a23, .ref a24, .int (nI dn), .int mo, .ref a27, .int (nI tz), .int fk, .int fp, .int so, .int (nI bg), .int (nI ten), .long wd, .int (nI tk), .int sd, .int nb, .int np, .int pli, .ref a40, .int rc, .int rR, .int rW, .int rX, .ref a45, .int (nI rs), .int e_24, .ref a48, .ref a49, .int (nI e_25), .ref a51])), (a0, .inl (cI, 3, .inl (fun j => nI (e_2 j)))), (a1, .inl (cI, 9, .inl (fun j => nI (e_3 j)))), (a2, .inl (cI, 108, .inl e_4)), (a3, .inl (cI, 108, .inl e_5)), (a4, .inl (cI, 108, .inl e_6)), (a5, .inl (cI, 108, .inl e_7)), (a6, .inl (cI, 108, .inl e_8)), (a7, .inl (cI, 108, .inl e_9)), (a8, .inl (cI, 108, .inl e_10)), (a9, .inl (cI, 108, .inl e_11)), (a10, .inl (cI, 12, .inl ci)), (a12, .inl (cI, 522000, .inl e_12)), (a13, .inl (cI, 9000, .inl e_13)), (a14, .inl (cI, 9000, .inl e_14)), (a15, .inl (cI, 9000, .inl e_15)), (a16, .inl (cI, 12288, .inl e_16)), (a17, .inl (cI, 3, .inl (fun j => nI (e_17 j)))), (a18, .inl (cZ, 3, .inl e_18)), (a19, .inl (cZ, 3, .inl e_19)), (a20, .inl (cI, 9000, .inl e_20)), (a21, .inl (cI, 3, .inl (fun j => nI (e_21 j)))), (a22, .inl (cI, 58, .inl e_22)), (a51, .inl (cI, 13, .inl (fun j => nI (e_23 j)))), (a48, .inl (cI, 2, .inl e_26)), (a49, .inl (cI, 16, .inl e_27))] ++ w9) H := hP
  have hD : va_D A ([(a23, .inl (cI, 58, .inl mf)), (a24, .inl (cI, 2900, .inl hh)), (a27, .inl (cB, 4000, .inl f)), (a40, .inl (cI, 12, .inl sp)), (a45, .inl (cI, 64, .inl rt)), (h0, .inr (9, [.ref a0, .ref a1, .ref a2, .ref a3, .ref a4, .ref a5, .ref a6, .ref a7, .ref a8, .ref a9, .ref a10, .int ld, .ref a12, .ref a13, .ref a14, .ref a15, .ref a16, .ref a17, .ref a18, .ref a19, .ref a20, .ref a21, .ref a22, .ref a23, .ref a24, .int (nI dn), .int mo, .ref a27, .int (nI tz), .int fk, .int fp, .int so, .int (nI bg), .int (nI ten), .long wd, .int (nI tk), .int sd, .int nb, .int np, .int pli, .ref a40, .int rc, .int rR, .int rW, .int rX, .ref a45, .int (nI rs), .int e_24, .ref a48, .ref a49, .int (nI e_25), .ref a51])), (a0, .inl (cI, 3, .inl (fun j => nI (e_2 j)))), (a1, .inl (cI, 9, .inl (fun j => nI (e_3 j)))), (a2, .inl (cI, 108, .inl e_4)), (a3, .inl (cI, 108, .inl e_5)), (a4, .inl (cI, 108, .inl e_6)), (a5, .inl (cI, 108, .inl e_7)), (a6, .inl (cI, 108, .inl e_8)), (a7, .inl (cI, 108, .inl e_9)), (a8, .inl (cI, 108, .inl e_10)), (a9, .inl (cI, 108, .inl e_11)), (a10, .inl (cI, 12, .inl ci)), (a12, .inl (cI, 522000, .inl e_12)), (a13, .inl (cI, 9000, .inl e_13)), (a14, .inl (cI, 9000, .inl e_14)), (a15, .inl (cI, 9000, .inl e_15)), (a16, .inl (cI, 12288, .inl e_16)), (a17, .inl (cI, 3, .inl (fun j => nI (e_17 j)))), (a18, .inl (cZ, 3, .inl e_18)), (a19, .inl (cZ, 3, .inl e_19)), (a20, .inl (cI, 9000, .inl e_20)), (a21, .inl (cI, 3, .inl (fun j => nI (e_21 j)))), (a22, .inl (cI, 58, .inl e_22)), (a51, .inl (cI, 13, .inl (fun j => nI (e_23 j)))), (a48, .inl (cI, 2, .inl e_26)), (a49, .inl (cI, 16, .inl e_27))] ++ w9) := hD
  refine W.widen (k := kc) (n := ns) (Nat.le_refl _) (Nat.le_refl _) ?_
  have hP := gq_subP (X' := [(h0, .inr (9, [.ref a0, .ref a1, .ref a2, .ref a3, .ref a4, .ref a5, .ref a6, .ref a7, .ref a8, .ref a9, .ref a10, .int ld, .ref a12, .ref a13, .ref a14, .ref a15, .ref a16, .ref a17, .ref a18, .ref a19, .ref a20, .ref a21, .ref a22, .ref a23, .ref a24, .int (nI dn), .int mo, .ref a27, .int (nI tz), .int fk, .int fp, .int so, .int (nI bg), .int (nI ten), .long wd, .int (nI tk), .int sd, .int nb, .int np, .int pli, .ref a40, .int rc, .int rR, .int rW, .int rX, .ref a45, .int (nI rs), .int e_24, .ref a48, .ref a49, .int (nI e_25), .ref a51])), (a0, .inl (cI, 3, .inl (fun j => nI (e_2 j)))), (a1, .inl (cI, 9, .inl (fun j => nI (e_3 j)))), (a2, .inl (cI, 108, .inl e_4)), (a3, .inl (cI, 108, .inl e_5)), (a4, .inl (cI, 108, .inl e_6)), (a5, .inl (cI, 108, .inl e_7)), (a6, .inl (cI, 108, .inl e_8)), (a7, .inl (cI, 108, .inl e_9)), (a8, .inl (cI, 108, .inl e_10)), (a9, .inl (cI, 108, .inl e_11)), (a10, .inl (cI, 12, .inl ci)), (a12, .inl (cI, 522000, .inl e_12)), (a13, .inl (cI, 9000, .inl e_13)), (a14, .inl (cI, 9000, .inl e_14)), (a15, .inl (cI, 9000, .inl e_15)), (a16, .inl (cI, 12288, .inl e_16)), (a17, .inl (cI, 3, .inl (fun j => nI (e_17 j)))), (a18, .inl (cZ, 3, .inl e_18)), (a19, .inl (cZ, 3, .inl e_19)), (a20, .inl (cI, 9000, .inl e_20)), (a21, .inl (cI, 3, .inl (fun j => nI (e_21 j)))), (a22, .inl (cI, 58, .inl e_22)), (a23, .inl (cI, 58, .inl mf)), (a24, .inl (cI, 2900, .inl hh)), (a27, .inl (cB, 4000, .inl f)), (a40, .inl (cI, 12, .inl sp)), (a45, .inl (cI, 64, .inl rt)), (a48, .inl (cI, 2, .inl e_26)), (a49, .inl (cI, 16, .inl e_27)), (a51, .inl (cI, 13, .inl (fun j => nI (e_23 j))))]) hP [5, 6, 7, 8, 9, 10, 11, 12, 13, 14, 15, 16, 17, 18, 19, 20, 21, 22, 23, 24, 25, 26, 27, 0, 1, 2, 3, 4, 29, 30, 28] rfl
  have hD := gq_subD (X' := [(h0, .inr (9, [.ref a0, .ref a1, .ref a2, .ref a3, .ref a4, .ref a5, .ref a6, .ref a7, .ref a8, .ref a9, .ref a10, .int ld, .ref a12, .ref a13, .ref a14, .ref a15, .ref a16, .ref a17, .ref a18, .ref a19, .ref a20, .ref a21, .ref a22, .ref a23, .ref a24, .int (nI dn), .int mo, .ref a27, .int (nI tz), .int fk, .int fp, .int so, .int (nI bg), .int (nI ten), .long wd, .int (nI tk), .int sd, .int nb, .int np, .int pli, .ref a40, .int rc, .int rR, .int rW, .int rX, .ref a45, .int (nI rs), .int e_24, .ref a48, .ref a49, .int (nI e_25), .ref a51])), (a0, .inl (cI, 3, .inl (fun j => nI (e_2 j)))), (a1, .inl (cI, 9, .inl (fun j => nI (e_3 j)))), (a2, .inl (cI, 108, .inl e_4)), (a3, .inl (cI, 108, .inl e_5)), (a4, .inl (cI, 108, .inl e_6)), (a5, .inl (cI, 108, .inl e_7)), (a6, .inl (cI, 108, .inl e_8)), (a7, .inl (cI, 108, .inl e_9)), (a8, .inl (cI, 108, .inl e_10)), (a9, .inl (cI, 108, .inl e_11)), (a10, .inl (cI, 12, .inl ci)), (a12, .inl (cI, 522000, .inl e_12)), (a13, .inl (cI, 9000, .inl e_13)), (a14, .inl (cI, 9000, .inl e_14)), (a15, .inl (cI, 9000, .inl e_15)), (a16, .inl (cI, 12288, .inl e_16)), (a17, .inl (cI, 3, .inl (fun j => nI (e_17 j)))), (a18, .inl (cZ, 3, .inl e_18)), (a19, .inl (cZ, 3, .inl e_19)), (a20, .inl (cI, 9000, .inl e_20)), (a21, .inl (cI, 3, .inl (fun j => nI (e_21 j)))), (a22, .inl (cI, 58, .inl e_22)), (a23, .inl (cI, 58, .inl mf)), (a24, .inl (cI, 2900, .inl hh)), (a27, .inl (cB, 4000, .inl f)), (a40, .inl (cI, 12, .inl sp)), (a45, .inl (cI, 64, .inl rt)), (a48, .inl (cI, 2, .inl e_26)), (a49, .inl (cI, 16, .inl e_27)), (a51, .inl (cI, 13, .inl (fun j => nI (e_23 j))))]) hD [5, 6, 7, 8, 9, 10, 11, 12, 13, 14, 15, 16, 17, 18, 19, 20, 21, 22, 23, 24, 25, 26, 27, 0, 1, 2, 3, 4, 29, 30, 28] (by decide) rfl
  exact kk e_1 _ H locs (ModelI_mk cI cB cZ h0 tz f fp ld nc L cf pf vst vk vm vd a0 a1 a2 a3 a4 a5 a6 a7 a8 a9 a10 a12 a13 a14 a15 a16 a17 a18 a19 a20 a21 a22 a23 a24 a27 a40 a45 a48 a49 a51 e_2 e_3 e_4 e_5 e_6 e_7 e_8 e_9 e_10 e_11 ci e_12 e_13 e_14 e_15 e_16 e_17 e_18 e_19 e_20 e_21 e_22 mf hh sp rt e_26 e_27 e_23 dn mo fk so bg ten wd tk sd nb np pli rc rR rW rX rs e_24 e_25 htp hq_28 (gMo_sm hMo hB.2.2.1 hq_30) hq_29 hrs hq_31 (rMP_s8 (hB.1 0 (by decide)) hMP (hq_30).1 (hq_30).2.2 hx652_0 (fun _ _ => rfl)) hMH) trivial hP hD hS
set_option maxHeartbeats 4000000 in
set_option maxRecDepth 100000 in
theorem md_cured {p : Program} {l : Launch} {e : Env} {s : State} {m : MethodId} {below : List Frame} {meth : Method} {c : Code} {b : Nat} {A : Nat → Prop} {Q : State → Prop} {D : va_G} {cI cB cZ : ClassId} {K : gKS} (G : gL p s m c b A D cI cB cZ K) {H : Heap} {locs : List Loc} {ls : Array Slot} {w8 w9 : va_W} {h0 tz kc ns tz9 : Nat} {f f9 : Nat → Int32} {fp ld fp9 ld9 : Int32} {nc nc9 : Nat} {L L9 : Nat → Nat} {cf cf9 : Nat → Int32} {pf pf9 : Nat → Int32} {vst vst9 : Int32} {vk vk9 : Nat} {vm vm9 : Int32} {vd vd9 : Nat → Int32} (hkb : kc ≤ 20000 ∧ ns ≤ 2000000) (hH : ModelI cI cB cZ h0 w8 tz f fp ld nc L cf pf vst vk vm vd) (hP : va_P D vwCl (w8 ++ w9) H) (hD : va_D A (w8 ++ w9)) (hS : va_S A s.heap H locs) (hl : ls.size = 4 ∧ True) (z1 : Int32) (r8 : Int32) (hR : tz = tz9 ∧ f = f9 ∧ fp = fp9 ∧ ld = ld9 ∧ nc = nc9 ∧ L = L9 ∧ cf = cf9 ∧ pf = pf9 ∧ vst = vst9 ∧ vk = vk9 ∧ vm = vm9 ∧ vd = vd9) (kk : ∀ (r : Int32) (w8' : va_W) (H1 : Heap) (locs1 : List Loc), ModelI cI cB cZ h0 w8' tz9 f9 fp9 ld9 nc9 L9 cf9 pf9 vst9 vk9 vm9 vd9 → (True) → va_P D vwCl (w8' ++ w9) H1 → va_D A (w8' ++ w9) → va_S A s.heap H1 locs1 → W p l e room_1 s m #[Value.ref b] below meth c H1 locs1 kc ns Q (F0 m 678 ls [.int r])) : W p l e room_1 s m #[Value.ref b] below meth c H locs kc ns Q (F0 m 675 ls [.int z1, .ref h0]) := by
  obtain ⟨hx, hb, hml, hown, hts, hA, hK, hN, hE⟩ := G
  unfold ModelI at hH
  obtain ⟨a0, hH⟩ := hH
  obtain ⟨a1, hH⟩ := hH
  obtain ⟨a2, hH⟩ := hH
  obtain ⟨a3, hH⟩ := hH
  obtain ⟨a4, hH⟩ := hH
  obtain ⟨a5, hH⟩ := hH
  obtain ⟨a6, hH⟩ := hH
  obtain ⟨a7, hH⟩ := hH
  obtain ⟨a8, hH⟩ := hH
  obtain ⟨a9, hH⟩ := hH
  obtain ⟨a10, hH⟩ := hH
  obtain ⟨a12, hH⟩ := hH
  obtain ⟨a13, hH⟩ := hH
  obtain ⟨a14, hH⟩ := hH
  obtain ⟨a15, hH⟩ := hH
  obtain ⟨a16, hH⟩ := hH
  obtain ⟨a17, hH⟩ := hH
  obtain ⟨a18, hH⟩ := hH
  obtain ⟨a19, hH⟩ := hH
  obtain ⟨a20, hH⟩ := hH
  obtain ⟨a21, hH⟩ := hH
  obtain ⟨a22, hH⟩ := hH
  obtain ⟨a23, hH⟩ := hH
  obtain ⟨a24, hH⟩ := hH
  obtain ⟨a27, hH⟩ := hH
  obtain ⟨a40, hH⟩ := hH
  obtain ⟨a45, hH⟩ := hH
  obtain ⟨a48, hH⟩ := hH
  obtain ⟨a49, hH⟩ := hH
  obtain ⟨a51, hH⟩ := hH
  obtain ⟨C, hH⟩ := hH
  obtain ⟨Mn, hH⟩ := hH
  obtain ⟨kd, hH⟩ := hH
  obtain ⟨cl, hH⟩ := hH
  obtain ⟨rg, hH⟩ := hH
  obtain ⟨uv1, hH⟩ := hH
  obtain ⟨ui1, hH⟩ := hH
  obtain ⟨uv2, hH⟩ := hH
  obtain ⟨ui2, hH⟩ := hH
  obtain ⟨sk, hH⟩ := hH
  obtain ⟨ci, hH⟩ := hH
  obtain ⟨sf, hH⟩ := hH
  obtain ⟨fr, hH⟩ := hH
  obtain ⟨bf, hH⟩ := hH
  obtain ⟨nf, hH⟩ := hH
  obtain ⟨hf, hH⟩ := hH
  obtain ⟨S, hH⟩ := hH
  obtain ⟨ff, hH⟩ := hH
  obtain ⟨df, hH⟩ := hH
  obtain ⟨en, hH⟩ := hH
  obtain ⟨E, hH⟩ := hH
  obtain ⟨nw, hH⟩ := hH
  obtain ⟨mf, hH⟩ := hH
  obtain ⟨hh, hH⟩ := hH
  obtain ⟨sp, hH⟩ := hH
  obtain ⟨rt, hH⟩ := hH
  obtain ⟨cu, hH⟩ := hH
  obtain ⟨spt, hH⟩ := hH
  obtain ⟨mv, hH⟩ := hH
  obtain ⟨dn, hH⟩ := hH
  obtain ⟨mo, hH⟩ := hH
  obtain ⟨fk, hH⟩ := hH
  obtain ⟨so, hH⟩ := hH
  obtain ⟨bg, hH⟩ := hH
  obtain ⟨ten, hH⟩ := hH
  obtain ⟨wd, hH⟩ := hH
  obtain ⟨tk, hH⟩ := hH
  obtain ⟨sd, hH⟩ := hH
  obtain ⟨nb, hH⟩ := hH
  obtain ⟨np, hH⟩ := hH
  obtain ⟨pli, hH⟩ := hH
  obtain ⟨rc, hH⟩ := hH
  obtain ⟨rR, hH⟩ := hH
  obtain ⟨rW, hH⟩ := hH
  obtain ⟨rX, hH⟩ := hH
  obtain ⟨rs, hH⟩ := hH
  obtain ⟨cm, hH⟩ := hH
  obtain ⟨sno, hH⟩ := hH
  obtain ⟨htp, hH⟩ := hH
  obtain ⟨hB, hH⟩ := hH
  obtain ⟨hMo, hH⟩ := hH
  obtain ⟨hAn, hH⟩ := hH
  obtain ⟨hrs, hH⟩ := hH
  obtain ⟨hcm, hH⟩ := hH
  obtain ⟨hMP, hH⟩ := hH
  obtain ⟨hMH, hH⟩ := hH
  subst hH
  obtain ⟨e1, e2, e3, e4, e5, e6, e7, e8, e9, e10, e11, e12⟩ := id hR
  subst e1; subst e2; subst e3; subst e4; subst e5; subst e6; subst e7; subst e8; subst e9; subst e10; subst e11; subst e12
  refine gq_goi (wc := [(h0, .inr (9, [.ref a0, .ref a1, .ref a2, .ref a3, .ref a4, .ref a5, .ref a6, .ref a7, .ref a8, .ref a9, .ref a10, .int ld, .ref a12, .ref a13, .ref a14, .ref a15, .ref a16, .ref a17, .ref a18, .ref a19, .ref a20, .ref a21, .ref a22, .ref a23, .ref a24, .int (nI dn), .int mo, .ref a27, .int (nI tz), .int fk, .int fp, .int so, .int (nI bg), .int (nI ten), .long wd, .int (nI tk), .int sd, .int nb, .int np, .int pli, .ref a40, .int rc, .int rR, .int rW, .int rX, .ref a45, .int (nI rs), .int cm, .ref a48, .ref a49, .int (nI sno), .ref a51])), (a48, .inl (cI, 2, .inl cu))]) (wr := [(a0, .inl (cI, 3, .inl (fun j => nI (C j)))), (a1, .inl (cI, 9, .inl (fun j => nI (Mn j)))), (a2, .inl (cI, 108, .inl kd)), (a3, .inl (cI, 108, .inl cl)), (a4, .inl (cI, 108, .inl rg)), (a5, .inl (cI, 108, .inl uv1)), (a6, .inl (cI, 108, .inl ui1)), (a7, .inl (cI, 108, .inl uv2)), (a8, .inl (cI, 108, .inl ui2)), (a9, .inl (cI, 108, .inl sk)), (a10, .inl (cI, 12, .inl ci)), (a12, .inl (cI, 522000, .inl sf)), (a13, .inl (cI, 9000, .inl fr)), (a14, .inl (cI, 9000, .inl bf)), (a15, .inl (cI, 9000, .inl nf)), (a16, .inl (cI, 12288, .inl hf)), (a17, .inl (cI, 3, .inl (fun j => nI (S j)))), (a18, .inl (cZ, 3, .inl ff)), (a19, .inl (cZ, 3, .inl df)), (a20, .inl (cI, 9000, .inl en)), (a21, .inl (cI, 3, .inl (fun j => nI (E j)))), (a22, .inl (cI, 58, .inl nw)), (a23, .inl (cI, 58, .inl mf)), (a24, .inl (cI, 2900, .inl hh)), (a27, .inl (cB, 4000, .inl f)), (a40, .inl (cI, 12, .inl sp)), (a45, .inl (cI, 64, .inl rt)), (a49, .inl (cI, 16, .inl spt)), (a51, .inl (cI, 13, .inl (fun j => nI (mv j))))]) (va_runV (As := [.int z1]) (rest := []) ⟨hx, hb, hml, hown, hts⟩ (c_cured9 l D cI cB cZ h0 a48 (.ref a0) (.ref a1) (.ref a2) (.ref a3) (.ref a4) (.ref a5) (.ref a6) (.ref a7) (.ref a8) (.ref a9) (.ref a10) (.ref a12) (.ref a13) (.ref a14) (.ref a15) (.ref a16) (.ref a17) (.ref a18) (.ref a19) (.ref a20) (.ref a21) (.ref a22) (.ref a23) (.ref a24) (.int (nI dn)) (.int mo) (.ref a27) (.int (nI tz)) (.int fk) (.int fp) (.int so) (.int (nI bg)) (.int (nI ten)) (.long wd) (.int (nI tk)) (.int sd) (.int nb) (.int np) (.int pli) (.ref a40) (.int rc) (.int rR) (.int rW) (.int rX) (.ref a45) (.int (nI rs)) (.ref a49) (.int (nI sno)) (.ref a51) ld cm cu z1 hcm _) (cwV 1 hts gP_law__c_cured9 rfl rfl rfl (by decide +kernel) ⟨Nat.le_of_ble_eq_true rfl, Nat.le_of_ble_eq_true rfl⟩) (gx_preV (ci := 9) (q0 := 0) hK gN.nil (gq_Pl hP) (gq_Dl hD) [0, 28] rfl rfl rfl rfl) rfl rfl hl.1 rfl (lv_room (Nat.le_of_ble_eq_true rfl)) dL_law_675 ⟨(Nat.le_trans (Nat.add_le_add_right hkb.1 _) (Nat.le_of_ble_eq_true rfl)), (Nat.le_trans (Nat.add_le_add_right hkb.2 _) (Nat.le_of_ble_eq_true rfl))⟩) hP hD hS hA [0, 28] [1, 2, 3, 4, 5, 6, 7, 8, 9, 10, 11, 12, 13, 14, 15, 16, 17, 18, 19, 20, 21, 22, 23, 24, 25, 26, 27, 29, 30] rfl rfl rfl (by decide) (fun r1 w1 H locs hp hP hD hS => ?_)
  obtain ⟨e_1, hp⟩ := hp
  obtain ⟨h9, hp⟩ := hp
  subst hp
  have h9 := h9.symm
  subst h9
  have hP : va_P D vwCl ([(a0, .inl (cI, 3, .inl (fun j => nI (C j)))), (a1, .inl (cI, 9, .inl (fun j => nI (Mn j)))), (a2, .inl (cI, 108, .inl kd)), (a3, .inl (cI, 108, .inl cl)), (a4, .inl (cI, 108, .inl rg)), (a5, .inl (cI, 108, .inl uv1)), (a6, .inl (cI, 108, .inl ui1)), (a7, .inl (cI, 108, .inl uv2)), (a8, .inl (cI, 108, .inl ui2)), (a9, .inl (cI, 108, .inl sk)), (a10, .inl (cI, 12, .inl ci)), (a12, .inl (cI, 522000, .inl sf)), (a13, .inl (cI, 9000, .inl fr)), (a14, .inl (cI, 9000, .inl bf)), (a15, .inl (cI, 9000, .inl nf)), (a16, .inl (cI, 12288, .inl hf)), (a17, .inl (cI, 3, .inl (fun j => nI (S j)))), (a18, .inl (cZ, 3, .inl ff)), (a19, .inl (cZ, 3, .inl df)), (a20, .inl (cI, 9000, .inl en)), (a21, .inl (cI, 3, .inl (fun j => nI (E j)))), (a22, .inl (cI, 58, .inl nw)), (a23, .inl (cI, 58, .inl mf)), (a24, .inl (cI, 2900, .inl hh)), (a27, .inl (cB, 4000, .inl f)), (a40, .inl (cI, 12, .inl sp)), (a45, .inl (cI, 64, .inl rt)), (a49, .inl (cI, 16, .inl spt)), (a51, .inl (cI, 13, .inl (fun j => nI (mv j)))), (h0, .inr (9, [.ref a0, .ref a1, .ref a2, .ref a3, .ref a4, .ref a5, .ref a6, .ref a7, .ref a8, .ref a9, .ref a10, .int ld, .ref a12, .ref a13, .ref a14, .ref a15, .ref a16, .ref a17, .ref a18, .ref a19, .ref a20, .ref a21, .ref a22, .ref a23, .ref a24, .int (nI dn), .int mo, .ref a27, .int (nI tz), .int fk, .int fp, .int so, .int (nI bg), .int (nI ten), .long wd, .int (nI tk), .int sd, .int nb, .int np, .int pli, .ref a40, .int rc, .int rR, .int rW, .int rX, .ref a45, .int (nI rs), .int cm, .ref a48, .ref a49, .int (nI sno), .ref a51])), (a48, .inl (cI, 2, .inl cu))] ++ w9) H := hP
  have hD : va_D A ([(a0, .inl (cI, 3, .inl (fun j => nI (C j)))), (a1, .inl (cI, 9, .inl (fun j => nI (Mn j)))), (a2, .inl (cI, 108, .inl kd)), (a3, .inl (cI, 108, .inl cl)), (a4, .inl (cI, 108, .inl rg)), (a5, .inl (cI, 108, .inl uv1)), (a6, .inl (cI, 108, .inl ui1)), (a7, .inl (cI, 108, .inl uv2)), (a8, .inl (cI, 108, .inl ui2)), (a9, .inl (cI, 108, .inl sk)), (a10, .inl (cI, 12, .inl ci)), (a12, .inl (cI, 522000, .inl sf)), (a13, .inl (cI, 9000, .inl fr)), (a14, .inl (cI, 9000, .inl bf)), (a15, .inl (cI, 9000, .inl nf)), (a16, .inl (cI, 12288, .inl hf)), (a17, .inl (cI, 3, .inl (fun j => nI (S j)))), (a18, .inl (cZ, 3, .inl ff)), (a19, .inl (cZ, 3, .inl df)), (a20, .inl (cI, 9000, .inl en)), (a21, .inl (cI, 3, .inl (fun j => nI (E j)))), (a22, .inl (cI, 58, .inl nw)), (a23, .inl (cI, 58, .inl mf)), (a24, .inl (cI, 2900, .inl hh)), (a27, .inl (cB, 4000, .inl f)), (a40, .inl (cI, 12, .inl sp)), (a45, .inl (cI, 64, .inl rt)), (a49, .inl (cI, 16, .inl spt)), (a51, .inl (cI, 13, .inl (fun j => nI (mv j)))), (h0, .inr (9, [.ref a0, .ref a1, .ref a2, .ref a3, .ref a4, .ref a5, .ref a6, .ref a7, .ref a8, .ref a9, .ref a10, .int ld, .ref a12, .ref a13, .ref a14, .ref a15, .ref a16, .ref a17, .ref a18, .ref a19, .ref a20, .ref a21, .ref a22, .ref a23, .ref a24, .int (nI dn), .int mo, .ref a27, .int (nI tz), .int fk, .int fp, .int so, .int (nI bg), .int (nI ten), .long wd, .int (nI tk), .int sd, .int nb, .int np, .int pli, .ref a40, .int rc, .int rR, .int rW, .int rX, .ref a45, .int (nI rs), .int cm, .ref a48, .ref a49, .int (nI sno), .ref a51])), (a48, .inl (cI, 2, .inl cu))] ++ w9) := hD
  refine W.widen (k := kc) (n := ns) (Nat.le_refl _) (Nat.le_refl _) ?_
  have hP := gq_subP (X' := [(h0, .inr (9, [.ref a0, .ref a1, .ref a2, .ref a3, .ref a4, .ref a5, .ref a6, .ref a7, .ref a8, .ref a9, .ref a10, .int ld, .ref a12, .ref a13, .ref a14, .ref a15, .ref a16, .ref a17, .ref a18, .ref a19, .ref a20, .ref a21, .ref a22, .ref a23, .ref a24, .int (nI dn), .int mo, .ref a27, .int (nI tz), .int fk, .int fp, .int so, .int (nI bg), .int (nI ten), .long wd, .int (nI tk), .int sd, .int nb, .int np, .int pli, .ref a40, .int rc, .int rR, .int rW, .int rX, .ref a45, .int (nI rs), .int cm, .ref a48, .ref a49, .int (nI sno), .ref a51])), (a0, .inl (cI, 3, .inl (fun j => nI (C j)))), (a1, .inl (cI, 9, .inl (fun j => nI (Mn j)))), (a2, .inl (cI, 108, .inl kd)), (a3, .inl (cI, 108, .inl cl)), (a4, .inl (cI, 108, .inl rg)), (a5, .inl (cI, 108, .inl uv1)), (a6, .inl (cI, 108, .inl ui1)), (a7, .inl (cI, 108, .inl uv2)), (a8, .inl (cI, 108, .inl ui2)), (a9, .inl (cI, 108, .inl sk)), (a10, .inl (cI, 12, .inl ci)), (a12, .inl (cI, 522000, .inl sf)), (a13, .inl (cI, 9000, .inl fr)), (a14, .inl (cI, 9000, .inl bf)), (a15, .inl (cI, 9000, .inl nf)), (a16, .inl (cI, 12288, .inl hf)), (a17, .inl (cI, 3, .inl (fun j => nI (S j)))), (a18, .inl (cZ, 3, .inl ff)), (a19, .inl (cZ, 3, .inl df)), (a20, .inl (cI, 9000, .inl en)), (a21, .inl (cI, 3, .inl (fun j => nI (E j)))), (a22, .inl (cI, 58, .inl nw)), (a23, .inl (cI, 58, .inl mf)), (a24, .inl (cI, 2900, .inl hh)), (a27, .inl (cB, 4000, .inl f)), (a40, .inl (cI, 12, .inl sp)), (a45, .inl (cI, 64, .inl rt)), (a48, .inl (cI, 2, .inl cu)), (a49, .inl (cI, 16, .inl spt)), (a51, .inl (cI, 13, .inl (fun j => nI (mv j))))]) hP [29, 0, 1, 2, 3, 4, 5, 6, 7, 8, 9, 10, 11, 12, 13, 14, 15, 16, 17, 18, 19, 20, 21, 22, 23, 24, 25, 26, 30, 27, 28] rfl
  have hD := gq_subD (X' := [(h0, .inr (9, [.ref a0, .ref a1, .ref a2, .ref a3, .ref a4, .ref a5, .ref a6, .ref a7, .ref a8, .ref a9, .ref a10, .int ld, .ref a12, .ref a13, .ref a14, .ref a15, .ref a16, .ref a17, .ref a18, .ref a19, .ref a20, .ref a21, .ref a22, .ref a23, .ref a24, .int (nI dn), .int mo, .ref a27, .int (nI tz), .int fk, .int fp, .int so, .int (nI bg), .int (nI ten), .long wd, .int (nI tk), .int sd, .int nb, .int np, .int pli, .ref a40, .int rc, .int rR, .int rW, .int rX, .ref a45, .int (nI rs), .int cm, .ref a48, .ref a49, .int (nI sno), .ref a51])), (a0, .inl (cI, 3, .inl (fun j => nI (C j)))), (a1, .inl (cI, 9, .inl (fun j => nI (Mn j)))), (a2, .inl (cI, 108, .inl kd)), (a3, .inl (cI, 108, .inl cl)), (a4, .inl (cI, 108, .inl rg)), (a5, .inl (cI, 108, .inl uv1)), (a6, .inl (cI, 108, .inl ui1)), (a7, .inl (cI, 108, .inl uv2)), (a8, .inl (cI, 108, .inl ui2)), (a9, .inl (cI, 108, .inl sk)), (a10, .inl (cI, 12, .inl ci)), (a12, .inl (cI, 522000, .inl sf)), (a13, .inl (cI, 9000, .inl fr)), (a14, .inl (cI, 9000, .inl bf)), (a15, .inl (cI, 9000, .inl nf)), (a16, .inl (cI, 12288, .inl hf)), (a17, .inl (cI, 3, .inl (fun j => nI (S j)))), (a18, .inl (cZ, 3, .inl ff)), (a19, .inl (cZ, 3, .inl df)), (a20, .inl (cI, 9000, .inl en)), (a21, .inl (cI, 3, .inl (fun j => nI (E j)))), (a22, .inl (cI, 58, .inl nw)), (a23, .inl (cI, 58, .inl mf)), (a24, .inl (cI, 2900, .inl hh)), (a27, .inl (cB, 4000, .inl f)), (a40, .inl (cI, 12, .inl sp)), (a45, .inl (cI, 64, .inl rt)), (a48, .inl (cI, 2, .inl cu)), (a49, .inl (cI, 16, .inl spt)), (a51, .inl (cI, 13, .inl (fun j => nI (mv j))))]) hD [29, 0, 1, 2, 3, 4, 5, 6, 7, 8, 9, 10, 11, 12, 13, 14, 15, 16, 17, 18, 19, 20, 21, 22, 23, 24, 25, 26, 30, 27, 28] (by decide) rfl
  exact kk e_1 _ H locs (ModelI_mk cI cB cZ h0 tz f fp ld nc L cf pf vst vk vm vd a0 a1 a2 a3 a4 a5 a6 a7 a8 a9 a10 a12 a13 a14 a15 a16 a17 a18 a19 a20 a21 a22 a23 a24 a27 a40 a45 a48 a49 a51 C Mn kd cl rg uv1 ui1 uv2 ui2 sk ci sf fr bf nf hf S ff df en E nw mf hh sp rt cu spt mv dn mo fk so bg ten wd tk sd nb np pli rc rR rW rX rs cm sno htp hB hMo hAn hrs hcm hMP hMH) trivial hP hD hS
set_option maxHeartbeats 4000000 in
set_option maxRecDepth 100000 in
theorem md_count {p : Program} {l : Launch} {e : Env} {s : State} {m : MethodId} {below : List Frame} {meth : Method} {c : Code} {b : Nat} {A : Nat → Prop} {Q : State → Prop} {D : va_G} {cI cB cZ : ClassId} {K : gKS} (G : gL p s m c b A D cI cB cZ K) {H : Heap} {locs : List Loc} {ls : Array Slot} {w8 w9 : va_W} {h0 tz kc ns tz9 : Nat} {f f9 : Nat → Int32} {fp ld fp9 ld9 : Int32} {nc nc9 : Nat} {L L9 : Nat → Nat} {cf cf9 : Nat → Int32} {pf pf9 : Nat → Int32} {vst vst9 : Int32} {vk vk9 : Nat} {vm vm9 : Int32} {vd vd9 : Nat → Int32} (hkb : kc ≤ 20000 ∧ ns ≤ 2000000) (hH : ModelI cI cB cZ h0 w8 tz f fp ld nc L cf pf vst vk vm vd) (hP : va_P D vwCl (w8 ++ w9) H) (hD : va_D A (w8 ++ w9)) (hS : va_S A s.heap H locs) (hl : ls.size = 4 ∧ True) (z1 : Int32) (r8 : Int32) (hR : tz = tz9 ∧ f = f9 ∧ fp = fp9 ∧ ld = ld9 ∧ nc = nc9 ∧ L = L9 ∧ cf = cf9 ∧ pf = pf9 ∧ vst = vst9 ∧ vk = vk9 ∧ vm = vm9 ∧ vd = vd9) (kk : ∀ (r : Int32) (w8' : va_W) (H1 : Heap) (locs1 : List Loc), ModelI cI cB cZ h0 w8' tz9 f9 fp9 ld9 nc9 L9 cf9 pf9 vst9 vk9 vm9 vd9 → (True) → va_P D vwCl (w8' ++ w9) H1 → va_D A (w8' ++ w9) → va_S A s.heap H1 locs1 → W p l e room_1 s m #[Value.ref b] below meth c H1 locs1 kc ns Q (F0 m 701 ls [.int r])) : W p l e room_1 s m #[Value.ref b] below meth c H locs kc ns Q (F0 m 698 ls [.int z1, .ref h0]) := by
  obtain ⟨hx, hb, hml, hown, hts, hA, hK, hN, hE⟩ := G
  unfold ModelI at hH
  obtain ⟨a0, hH⟩ := hH
  obtain ⟨a1, hH⟩ := hH
  obtain ⟨a2, hH⟩ := hH
  obtain ⟨a3, hH⟩ := hH
  obtain ⟨a4, hH⟩ := hH
  obtain ⟨a5, hH⟩ := hH
  obtain ⟨a6, hH⟩ := hH
  obtain ⟨a7, hH⟩ := hH
  obtain ⟨a8, hH⟩ := hH
  obtain ⟨a9, hH⟩ := hH
  obtain ⟨a10, hH⟩ := hH
  obtain ⟨a12, hH⟩ := hH
  obtain ⟨a13, hH⟩ := hH
  obtain ⟨a14, hH⟩ := hH
  obtain ⟨a15, hH⟩ := hH
  obtain ⟨a16, hH⟩ := hH
  obtain ⟨a17, hH⟩ := hH
  obtain ⟨a18, hH⟩ := hH
  obtain ⟨a19, hH⟩ := hH
  obtain ⟨a20, hH⟩ := hH
  obtain ⟨a21, hH⟩ := hH
  obtain ⟨a22, hH⟩ := hH
  obtain ⟨a23, hH⟩ := hH
  obtain ⟨a24, hH⟩ := hH
  obtain ⟨a27, hH⟩ := hH
  obtain ⟨a40, hH⟩ := hH
  obtain ⟨a45, hH⟩ := hH
  obtain ⟨a48, hH⟩ := hH
  obtain ⟨a49, hH⟩ := hH
  obtain ⟨a51, hH⟩ := hH
  obtain ⟨C, hH⟩ := hH
  obtain ⟨Mn, hH⟩ := hH
  obtain ⟨kd, hH⟩ := hH
  obtain ⟨cl, hH⟩ := hH
  obtain ⟨rg, hH⟩ := hH
  obtain ⟨uv1, hH⟩ := hH
  obtain ⟨ui1, hH⟩ := hH
  obtain ⟨uv2, hH⟩ := hH
  obtain ⟨ui2, hH⟩ := hH
  obtain ⟨sk, hH⟩ := hH
  obtain ⟨ci, hH⟩ := hH
  obtain ⟨sf, hH⟩ := hH
  obtain ⟨fr, hH⟩ := hH
  obtain ⟨bf, hH⟩ := hH
  obtain ⟨nf, hH⟩ := hH
  obtain ⟨hf, hH⟩ := hH
  obtain ⟨S, hH⟩ := hH
  obtain ⟨ff, hH⟩ := hH
  obtain ⟨df, hH⟩ := hH
  obtain ⟨en, hH⟩ := hH
  obtain ⟨E, hH⟩ := hH
  obtain ⟨nw, hH⟩ := hH
  obtain ⟨mf, hH⟩ := hH
  obtain ⟨hh, hH⟩ := hH
  obtain ⟨sp, hH⟩ := hH
  obtain ⟨rt, hH⟩ := hH
  obtain ⟨cu, hH⟩ := hH
  obtain ⟨spt, hH⟩ := hH
  obtain ⟨mv, hH⟩ := hH
  obtain ⟨dn, hH⟩ := hH
  obtain ⟨mo, hH⟩ := hH
  obtain ⟨fk, hH⟩ := hH
  obtain ⟨so, hH⟩ := hH
  obtain ⟨bg, hH⟩ := hH
  obtain ⟨ten, hH⟩ := hH
  obtain ⟨wd, hH⟩ := hH
  obtain ⟨tk, hH⟩ := hH
  obtain ⟨sd, hH⟩ := hH
  obtain ⟨nb, hH⟩ := hH
  obtain ⟨np, hH⟩ := hH
  obtain ⟨pli, hH⟩ := hH
  obtain ⟨rc, hH⟩ := hH
  obtain ⟨rR, hH⟩ := hH
  obtain ⟨rW, hH⟩ := hH
  obtain ⟨rX, hH⟩ := hH
  obtain ⟨rs, hH⟩ := hH
  obtain ⟨cm, hH⟩ := hH
  obtain ⟨sno, hH⟩ := hH
  obtain ⟨htp, hH⟩ := hH
  obtain ⟨hB, hH⟩ := hH
  obtain ⟨hMo, hH⟩ := hH
  obtain ⟨hAn, hH⟩ := hH
  obtain ⟨hrs, hH⟩ := hH
  obtain ⟨hcm, hH⟩ := hH
  obtain ⟨hMP, hH⟩ := hH
  obtain ⟨hMH, hH⟩ := hH
  subst hH
  obtain ⟨e1, e2, e3, e4, e5, e6, e7, e8, e9, e10, e11, e12⟩ := id hR
  subst e1; subst e2; subst e3; subst e4; subst e5; subst e6; subst e7; subst e8; subst e9; subst e10; subst e11; subst e12
  refine gq_goi (wc := [(h0, .inr (9, [.ref a0, .ref a1, .ref a2, .ref a3, .ref a4, .ref a5, .ref a6, .ref a7, .ref a8, .ref a9, .ref a10, .int ld, .ref a12, .ref a13, .ref a14, .ref a15, .ref a16, .ref a17, .ref a18, .ref a19, .ref a20, .ref a21, .ref a22, .ref a23, .ref a24, .int (nI dn), .int mo, .ref a27, .int (nI tz), .int fk, .int fp, .int so, .int (nI bg), .int (nI ten), .long wd, .int (nI tk), .int sd, .int nb, .int np, .int pli, .ref a40, .int rc, .int rR, .int rW, .int rX, .ref a45, .int (nI rs), .int cm, .ref a48, .ref a49, .int (nI sno), .ref a51])), (a0, .inl (cI, 3, .inl (fun j => nI (C j)))), (a1, .inl (cI, 9, .inl (fun j => nI (Mn j)))), (a2, .inl (cI, 108, .inl kd)), (a3, .inl (cI, 108, .inl cl)), (a4, .inl (cI, 108, .inl rg)), (a5, .inl (cI, 108, .inl uv1)), (a6, .inl (cI, 108, .inl ui1)), (a7, .inl (cI, 108, .inl uv2)), (a8, .inl (cI, 108, .inl ui2)), (a9, .inl (cI, 108, .inl sk)), (a10, .inl (cI, 12, .inl ci)), (a12, .inl (cI, 522000, .inl sf)), (a13, .inl (cI, 9000, .inl fr)), (a14, .inl (cI, 9000, .inl bf)), (a15, .inl (cI, 9000, .inl nf)), (a16, .inl (cI, 12288, .inl hf)), (a17, .inl (cI, 3, .inl (fun j => nI (S j)))), (a18, .inl (cZ, 3, .inl ff)), (a19, .inl (cZ, 3, .inl df)), (a20, .inl (cI, 9000, .inl en)), (a21, .inl (cI, 3, .inl (fun j => nI (E j)))), (a22, .inl (cI, 58, .inl nw)), (a23, .inl (cI, 58, .inl mf)), (a49, .inl (cI, 16, .inl spt))]) (wr := [(a24, .inl (cI, 2900, .inl hh)), (a27, .inl (cB, 4000, .inl f)), (a40, .inl (cI, 12, .inl sp)), (a45, .inl (cI, 64, .inl rt)), (a48, .inl (cI, 2, .inl cu)), (a51, .inl (cI, 13, .inl (fun j => nI (mv j))))]) (va_runV (As := [.int z1]) (rest := []) ⟨hx, hb, hml, hown, hts⟩ (c_count9 l D cI cB cZ h0 a0 a1 a2 a3 a4 a5 a6 a7 a8 a9 a10 a12 a13 a14 a15 a16 a17 a22 a18 a19 a20 a21 a23 a49 (.ref a24) (.ref a27) (.int fk) (.int fp) (.int so) (.int (nI bg)) (.int (nI ten)) (.long wd) (.int (nI tk)) (.int sd) (.int nb) (.int np) (.int pli) (.ref a40) (.int rc) (.int rR) (.int rW) (.int rX) (.ref a45) (.int (nI rs)) (.int cm) (.ref a48) (.ref a51) ld tz mo dn mf C Mn kd cl rg uv1 ui1 uv2 ui2 sk ci sf fr bf nf hf S ff df en E nw sno spt z1 hB.1 hB.2.1 hB.2.2.2 hAn hB.2.2.1 _) (cwV 1 hts gP_law__c_count9 rfl rfl rfl (by decide +kernel) ⟨Nat.le_of_ble_eq_true rfl, Nat.le_of_ble_eq_true rfl⟩) (gx_preV (ci := 9) (q0 := 0) hK gN.nil (gq_Pl hP) (gq_Dl hD) [0, 1, 2, 3, 4, 5, 6, 7, 8, 9, 10, 11, 12, 13, 14, 15, 16, 17, 18, 19, 20, 21, 22, 23, 29] rfl rfl rfl rfl) rfl rfl hl.1 rfl (lv_room (Nat.le_of_ble_eq_true rfl)) dL_law_698 ⟨(Nat.le_trans (Nat.add_le_add_right hkb.1 _) (Nat.le_of_ble_eq_true rfl)), (Nat.le_trans (Nat.add_le_add_right hkb.2 _) (Nat.le_of_ble_eq_true rfl))⟩) hP hD hS hA [0, 1, 2, 3, 4, 5, 6, 7, 8, 9, 10, 11, 12, 13, 14, 15, 16, 17, 18, 19, 20, 21, 22, 23, 29] [24, 25, 26, 27, 28, 30] rfl rfl rfl (by decide) (fun r1 w1 H locs hp hP hD hS => ?_)
  obtain ⟨e_1, hp⟩ := hp
  obtain ⟨e_2, hp⟩ := hp
  obtain ⟨e_3, hp⟩ := hp
  obtain ⟨e_4, hp⟩ := hp
  obtain ⟨e_5, hp⟩ := hp
  obtain ⟨e_6, hp⟩ := hp
  obtain ⟨e_7, hp⟩ := hp
  obtain ⟨e_8, hp⟩ := hp
  obtain ⟨e_9, hp⟩ := hp
  obtain ⟨e_10, hp⟩ := hp
  obtain ⟨e_11, hp⟩ := hp
  obtain ⟨e_12, hp⟩ := hp
  obtain ⟨e_13, hp⟩ := hp
  obtain ⟨e_14, hp⟩ := hp
  obtain ⟨hq_15, hp⟩ := hp
  obtain ⟨h9, hp⟩ := hp
  subst hp
  have h9 := h9.symm
  subst h9
  have hq_15 : ∀ t, t < 2 → gA9 t e_9 e_7 e_11 e_3 e_10 := hq_15
  have hP : va_P D vwCl ([(a24, .inl (cI, 2900, .inl hh)), (a27, .inl (cB, 4000, .inl f)), (a40, .inl (cI, 12, .inl sp)), (a45, .inl (cI, 64, .inl rt)), (a48, .inl (cI, 2, .inl cu)), (a51, .inl (cI, 13, .inl (fun j => nI (mv j)))), (h0, .inr (9, [.ref a0, .ref a1, .ref a2, .ref a3, .ref a4, .ref a5, .ref a6, .ref a7, .ref a8, .ref a9, .ref a10, .int ld, .ref a12, .ref a13, .ref a14, .ref a15, .ref a16, .ref a17, .ref a18, .ref a19, .ref a20, .ref a21, .ref a22, .ref a23, .ref a24, .int (nI dn), .int mo, .ref a27, .int (nI tz), .int fk, .int fp, .int so, .int (nI bg), .int (nI ten), .long wd, .int (nI tk), .int sd, .int nb, .int np, .int pli, .ref a40, .int rc, .int rR, .int rW, .int rX, .ref a45, .int (nI rs), .int cm, .ref a48, .ref a49, .int (nI e_13), .ref a51])), (a0, .inl (cI, 3, .inl (fun j => nI (C j)))), (a1, .inl (cI, 9, .inl (fun j => nI (Mn j)))), (a2, .inl (cI, 108, .inl kd)), (a3, .inl (cI, 108, .inl cl)), (a4, .inl (cI, 108, .inl rg)), (a5, .inl (cI, 108, .inl uv1)), (a6, .inl (cI, 108, .inl ui1)), (a7, .inl (cI, 108, .inl uv2)), (a8, .inl (cI, 108, .inl ui2)), (a9, .inl (cI, 108, .inl sk)), (a10, .inl (cI, 12, .inl ci)), (a12, .inl (cI, 522000, .inl e_2)), (a13, .inl (cI, 9000, .inl e_3)), (a14, .inl (cI, 9000, .inl e_4)), (a15, .inl (cI, 9000, .inl e_5)), (a16, .inl (cI, 12288, .inl e_6)), (a17, .inl (cI, 3, .inl (fun j => nI (e_7 j)))), (a18, .inl (cZ, 3, .inl e_8)), (a19, .inl (cZ, 3, .inl e_9)), (a20, .inl (cI, 9000, .inl e_10)), (a21, .inl (cI, 3, .inl (fun j => nI (e_11 j)))), (a22, .inl (cI, 58, .inl e_12)), (a23, .inl (cI, 58, .inl mf)), (a49, .inl (cI, 16, .inl e_14))] ++ w9) H := hP
  have hD : va_D A ([(a24, .inl (cI, 2900, .inl hh)), (a27, .inl (cB, 4000, .inl f)), (a40, .inl (cI, 12, .inl sp)), (a45, .inl (cI, 64, .inl rt)), (a48, .inl (cI, 2, .inl cu)), (a51, .inl (cI, 13, .inl (fun j => nI (mv j)))), (h0, .inr (9, [.ref a0, .ref a1, .ref a2, .ref a3, .ref a4, .ref a5, .ref a6, .ref a7, .ref a8, .ref a9, .ref a10, .int ld, .ref a12, .ref a13, .ref a14, .ref a15, .ref a16, .ref a17, .ref a18, .ref a19, .ref a20, .ref a21, .ref a22, .ref a23, .ref a24, .int (nI dn), .int mo, .ref a27, .int (nI tz), .int fk, .int fp, .int so, .int (nI bg), .int (nI ten), .long wd, .int (nI tk), .int sd, .int nb, .int np, .int pli, .ref a40, .int rc, .int rR, .int rW, .int rX, .ref a45, .int (nI rs), .int cm, .ref a48, .ref a49, .int (nI e_13), .ref a51])), (a0, .inl (cI, 3, .inl (fun j => nI (C j)))), (a1, .inl (cI, 9, .inl (fun j => nI (Mn j)))), (a2, .inl (cI, 108, .inl kd)), (a3, .inl (cI, 108, .inl cl)), (a4, .inl (cI, 108, .inl rg)), (a5, .inl (cI, 108, .inl uv1)), (a6, .inl (cI, 108, .inl ui1)), (a7, .inl (cI, 108, .inl uv2)), (a8, .inl (cI, 108, .inl ui2)), (a9, .inl (cI, 108, .inl sk)), (a10, .inl (cI, 12, .inl ci)), (a12, .inl (cI, 522000, .inl e_2)), (a13, .inl (cI, 9000, .inl e_3)), (a14, .inl (cI, 9000, .inl e_4)), (a15, .inl (cI, 9000, .inl e_5)), (a16, .inl (cI, 12288, .inl e_6)), (a17, .inl (cI, 3, .inl (fun j => nI (e_7 j)))), (a18, .inl (cZ, 3, .inl e_8)), (a19, .inl (cZ, 3, .inl e_9)), (a20, .inl (cI, 9000, .inl e_10)), (a21, .inl (cI, 3, .inl (fun j => nI (e_11 j)))), (a22, .inl (cI, 58, .inl e_12)), (a23, .inl (cI, 58, .inl mf)), (a49, .inl (cI, 16, .inl e_14))] ++ w9) := hD
  refine W.widen (k := kc) (n := ns) (Nat.le_refl _) (Nat.le_refl _) ?_
  have hP := gq_subP (X' := [(h0, .inr (9, [.ref a0, .ref a1, .ref a2, .ref a3, .ref a4, .ref a5, .ref a6, .ref a7, .ref a8, .ref a9, .ref a10, .int ld, .ref a12, .ref a13, .ref a14, .ref a15, .ref a16, .ref a17, .ref a18, .ref a19, .ref a20, .ref a21, .ref a22, .ref a23, .ref a24, .int (nI dn), .int mo, .ref a27, .int (nI tz), .int fk, .int fp, .int so, .int (nI bg), .int (nI ten), .long wd, .int (nI tk), .int sd, .int nb, .int np, .int pli, .ref a40, .int rc, .int rR, .int rW, .int rX, .ref a45, .int (nI rs), .int cm, .ref a48, .ref a49, .int (nI e_13), .ref a51])), (a0, .inl (cI, 3, .inl (fun j => nI (C j)))), (a1, .inl (cI, 9, .inl (fun j => nI (Mn j)))), (a2, .inl (cI, 108, .inl kd)), (a3, .inl (cI, 108, .inl cl)), (a4, .inl (cI, 108, .inl rg)), (a5, .inl (cI, 108, .inl uv1)), (a6, .inl (cI, 108, .inl ui1)), (a7, .inl (cI, 108, .inl uv2)), (a8, .inl (cI, 108, .inl ui2)), (a9, .inl (cI, 108, .inl sk)), (a10, .inl (cI, 12, .inl ci)), (a12, .inl (cI, 522000, .inl e_2)), (a13, .inl (cI, 9000, .inl e_3)), (a14, .inl (cI, 9000, .inl e_4)), (a15, .inl (cI, 9000, .inl e_5)), (a16, .inl (cI, 12288, .inl e_6)), (a17, .inl (cI, 3, .inl (fun j => nI (e_7 j)))), (a18, .inl (cZ, 3, .inl e_8)), (a19, .inl (cZ, 3, .inl e_9)), (a20, .inl (cI, 9000, .inl e_10)), (a21, .inl (cI, 3, .inl (fun j => nI (e_11 j)))), (a22, .inl (cI, 58, .inl e_12)), (a23, .inl (cI, 58, .inl mf)), (a24, .inl (cI, 2900, .inl hh)), (a27, .inl (cB, 4000, .inl f)), (a40, .inl (cI, 12, .inl sp)), (a45, .inl (cI, 64, .inl rt)), (a48, .inl (cI, 2, .inl cu)), (a49, .inl (cI, 16, .inl e_14)), (a51, .inl (cI, 13, .inl (fun j => nI (mv j))))]) hP [6, 7, 8, 9, 10, 11, 12, 13, 14, 15, 16, 17, 18, 19, 20, 21, 22, 23, 24, 25, 26, 27, 28, 29, 0, 1, 2, 3, 4, 30, 5] rfl
  have hD := gq_subD (X' := [(h0, .inr (9, [.ref a0, .ref a1, .ref a2, .ref a3, .ref a4, .ref a5, .ref a6, .ref a7, .ref a8, .ref a9, .ref a10, .int ld, .ref a12, .ref a13, .ref a14, .ref a15, .ref a16, .ref a17, .ref a18, .ref a19, .ref a20, .ref a21, .ref a22, .ref a23, .ref a24, .int (nI dn), .int mo, .ref a27, .int (nI tz), .int fk, .int fp, .int so, .int (nI bg), .int (nI ten), .long wd, .int (nI tk), .int sd, .int nb, .int np, .int pli, .ref a40, .int rc, .int rR, .int rW, .int rX, .ref a45, .int (nI rs), .int cm, .ref a48, .ref a49, .int (nI e_13), .ref a51])), (a0, .inl (cI, 3, .inl (fun j => nI (C j)))), (a1, .inl (cI, 9, .inl (fun j => nI (Mn j)))), (a2, .inl (cI, 108, .inl kd)), (a3, .inl (cI, 108, .inl cl)), (a4, .inl (cI, 108, .inl rg)), (a5, .inl (cI, 108, .inl uv1)), (a6, .inl (cI, 108, .inl ui1)), (a7, .inl (cI, 108, .inl uv2)), (a8, .inl (cI, 108, .inl ui2)), (a9, .inl (cI, 108, .inl sk)), (a10, .inl (cI, 12, .inl ci)), (a12, .inl (cI, 522000, .inl e_2)), (a13, .inl (cI, 9000, .inl e_3)), (a14, .inl (cI, 9000, .inl e_4)), (a15, .inl (cI, 9000, .inl e_5)), (a16, .inl (cI, 12288, .inl e_6)), (a17, .inl (cI, 3, .inl (fun j => nI (e_7 j)))), (a18, .inl (cZ, 3, .inl e_8)), (a19, .inl (cZ, 3, .inl e_9)), (a20, .inl (cI, 9000, .inl e_10)), (a21, .inl (cI, 3, .inl (fun j => nI (e_11 j)))), (a22, .inl (cI, 58, .inl e_12)), (a23, .inl (cI, 58, .inl mf)), (a24, .inl (cI, 2900, .inl hh)), (a27, .inl (cB, 4000, .inl f)), (a40, .inl (cI, 12, .inl sp)), (a45, .inl (cI, 64, .inl rt)), (a48, .inl (cI, 2, .inl cu)), (a49, .inl (cI, 16, .inl e_14)), (a51, .inl (cI, 13, .inl (fun j => nI (mv j))))]) hD [6, 7, 8, 9, 10, 11, 12, 13, 14, 15, 16, 17, 18, 19, 20, 21, 22, 23, 24, 25, 26, 27, 28, 29, 0, 1, 2, 3, 4, 30, 5] (by decide) rfl
  exact kk e_1 _ H locs (ModelI_mk cI cB cZ h0 tz f fp ld nc L cf pf vst vk vm vd a0 a1 a2 a3 a4 a5 a6 a7 a8 a9 a10 a12 a13 a14 a15 a16 a17 a18 a19 a20 a21 a22 a23 a24 a27 a40 a45 a48 a49 a51 C Mn kd cl rg uv1 ui1 uv2 ui2 sk ci e_2 e_3 e_4 e_5 e_6 e_7 e_8 e_9 e_10 e_11 e_12 mf hh sp rt cu e_14 mv dn mo fk so bg ten wd tk sd nb np pli rc rR rW rX rs cm e_13 htp hB hMo hq_15 hrs hcm hMP hMH) trivial hP hD hS
