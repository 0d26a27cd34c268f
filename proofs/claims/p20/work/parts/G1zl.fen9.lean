
/-! the reference's PROGRAM with fences -/
section R89
variable {kd cl rg v1 i1 v2 i2 sk : Nat → Int32} {q t s c a : Nat} {y0 y1 y2 y3 y5 : Int32}
theorem gR8_c (hc : c < 8) : rP8 (upd kd t (kd s)) (upd cl t (cl s)) (upd rg t (rg s)) (upd v1 t (v1 s)) (upd i1 t (i1 s)) (upd v2 t (v2 s)) (upd i2 t (i2 s)) (upd sk t (sk s)) q c = if q = t then rP8 kd cl rg v1 i1 v2 i2 sk s c else rP8 kd cl rg v1 i1 v2 i2 sk q c := by
  by_cases e : q = t
  · subst e
    rw [if_pos rfl]
    rcases (show c = 0 ∨ c = 1 ∨ c = 2 ∨ c = 3 ∨ c = 4 ∨ c = 5 ∨ c = 6 ∨ c = 7 by omega) with e | e | e | e | e | e | e | e <;> subst e <;> exact pk_us
  · rw [if_neg e]
    rcases (show c = 0 ∨ c = 1 ∨ c = 2 ∨ c = 3 ∨ c = 4 ∨ c = 5 ∨ c = 6 ∨ c = 7 by omega) with e8 | e8 | e8 | e8 | e8 | e8 | e8 | e8 <;> subst e8 <;> exact pk_un e
theorem gR8_a (hc : c < 8) (hq : q ≠ a) : rP8 (upd kd a y0) (upd cl a y1) (upd rg a y2) (upd v1 a y3) i1 (upd v2 a y5) i2 sk q c = rP8 kd cl rg v1 i1 v2 i2 sk q c := by
  rcases (show c = 0 ∨ c = 1 ∨ c = 2 ∨ c = 3 ∨ c = 4 ∨ c = 5 ∨ c = 6 ∨ c = 7 by omega) with e8 | e8 | e8 | e8 | e8 | e8 | e8 | e8 <;> subst e8 <;> first | exact pk_un hq | rfl
theorem gR8_e {kd9 cl9 rg9 v19 i19 v29 i29 sk9 : Nat → Int32} (hc : c < 8) (e0 : kd9 q = kd q) (e1 : cl9 q = cl q) (e2 : rg9 q = rg q) (e3 : v19 q = v1 q) (e4 : i19 q = i1 q) (e5 : v29 q = v2 q) (e6 : i29 q = i2 q) (e7 : sk9 q = sk q) : rP8 kd9 cl9 rg9 v19 i19 v29 i29 sk9 q c = rP8 kd cl rg v1 i1 v2 i2 sk q c := by
  rcases (show c = 0 ∨ c = 1 ∨ c = 2 ∨ c = 3 ∨ c = 4 ∨ c = 5 ∨ c = 6 ∨ c = 7 by omega) with e8 | e8 | e8 | e8 | e8 | e8 | e8 | e8 <;> subst e8
  · exact e0
  · exact e1
  · exact e2
  · exact e3
  · exact e4
  · exact e5
  · exact e6
  · exact e7
theorem gR8_7 {sk9 : Nat → Int32} (hc : c < 7) : rP8 kd cl rg v1 i1 v2 i2 sk9 q c = rP8 kd cl rg v1 i1 v2 i2 sk q c := by
  rcases (show c = 0 ∨ c = 1 ∨ c = 2 ∨ c = 3 ∨ c = 4 ∨ c = 5 ∨ c = 6 by omega) with e8 | e8 | e8 | e8 | e8 | e8 | e8 <;> subst e8 <;> rfl
end R89
/-- a fence ahead of INS j of CORE k -/
def gFx9 (x y : Int32) (k j : Nat) : Prop := (x = nI ((10 * k) + j) ∨ y = nI ((10 * k) + j)) ∧ 0 < j
/-- the first i INS of CORE k are laid -/
def gIw (R Z : Nat → Nat → Int32) (x y : Int32) (k : Nat) (mv : Nat → Nat) (i : Nat) : Prop := ∀ j, j < i → (∀ c, c < 8 → R ((72 + (12 * k)) + gOw x y k mv j) c = Z ((12 * k) + j) c) ∧ (gFx9 x y k j → R ((72 + (12 * k)) + mv j) 0 = 4 ∧ R ((72 + (12 * k)) + mv j) 3 = (-1) ∧ R ((72 + (12 * k)) + mv j) 5 = (-1))
/-- CORE k is laid, its skips too -/
def gIz (R Z : Nat → Nat → Int32) (x y : Int32) (k : Nat) (mv : Nat → Nat) (n hd : Nat) : Prop := gMvd x y k n hd mv ∧ ∀ j, j < hd → (∀ c, c < 7 → R ((72 + (12 * k)) + gOw x y k mv j) c = Z ((12 * k) + j) c) ∧ (Z ((12 * k) + j) 0 = 8 → ∀ u, u ≤ 11 → Z ((12 * k) + j) 7 = nI u → R ((72 + (12 * k)) + gOw x y k mv j) 7 = nI (mv (j + 1 + u) - gOw x y k mv j - 1)) ∧ (gFx9 x y k j → R ((72 + (12 * k)) + mv j) 0 = 4 ∧ R ((72 + (12 * k)) + mv j) 3 = (-1) ∧ R ((72 + (12 * k)) + mv j) 5 = (-1))
section IXX
variable {R R9 Z : Nat → Nat → Int32} {x y : Int32} {k i n hd t : Nat} {mv mv9 : Nat → Nat}
theorem gIw_0 : gIw R Z x y k mv 0 := fun j h => absurd h (Nat.not_lt_zero j)
theorem gOw_mn {j : Nat} (hm : gMvd x y k n i mv) (hj : j < i) : gOw x y k mv j < n ∧ mv j < n := by
  have a := hm.2.1 j hj
  have b := gMvd_mono hm (show j + 1 ≤ i by omega) (Nat.le_refl _)
  have c := (gOw_le (x := x) (y := y) (k := k) (i := j) (mv := mv)).1
  rw [hm.2.2] at b
  omega
theorem gIw_s (hm : gMvd x y k n i mv) (h : gIw R Z x y k mv i) (h9 : ∀ j, j ≤ i → mv9 j = mv j) (hfr : ∀ q c, q < (72 + (12 * k)) + n → c < 8 → R9 q c = R q c) (hnew : ∀ c, c < 8 → R9 ((72 + (12 * k)) + gOw x y k mv i) c = Z ((12 * k) + i) c) (hf : gFx9 x y k i → R9 ((72 + (12 * k)) + n) 0 = 4 ∧ R9 ((72 + (12 * k)) + n) 3 = (-1) ∧ R9 ((72 + (12 * k)) + n) 5 = (-1)) : gIw R9 Z x y k mv9 (i + 1) := by
  intro j hj
  rw [gOw_ext (h9 j (by omega)), h9 j (by omega)]
  by_cases e : j = i
  · subst e
    rw [hm.2.2]
    exact ⟨hnew, hf⟩
  · obtain ⟨o1, o2⟩ := gOw_mn (j := j) hm (by omega)
    obtain ⟨p, q⟩ := h j (by omega)
    exact ⟨fun c hc => (hfr _ c (by omega) hc).trans (p c hc), fun f => ⟨(hfr _ 0 (by omega) (by decide)).trans (q f).1, (hfr _ 3 (by omega) (by decide)).trans (q f).2.1, (hfr _ 5 (by omega) (by decide)).trans (q f).2.2⟩⟩
theorem gIz_e (h : gIz R Z x y k mv n hd) (e : ∀ q c, (72 + (12 * k)) ≤ q → q < (72 + (12 * k)) + n → c < 8 → R9 q c = R q c) : gIz R9 Z x y k mv n hd := by
  refine ⟨h.1, fun j hj => ?_⟩
  obtain ⟨o1, o2⟩ := gOw_mn (j := j) h.1 hj
  obtain ⟨p, q, r⟩ := h.2 j hj
  exact ⟨fun c hc => (e _ c (by omega) (by omega) (by omega)).trans (p c hc), fun h8 u hu eu => (e _ 7 (by omega) (by omega) (by decide)).trans (q h8 u hu eu), fun f => ⟨(e _ 0 (by omega) (by omega) (by decide)).trans (r f).1, (e _ 3 (by omega) (by omega) (by decide)).trans (r f).2.1, (e _ 5 (by omega) (by omega) (by decide)).trans (r f).2.2⟩⟩
theorem gIz_m (hm : gMvd x y k n hd mv) (h : gIw R Z x y k mv hd) (he : ∀ q c, c < 7 → R9 q c = R q c) (hl : ∀ j, j < hd → Z ((12 * k) + j) 0 = 8 → ∀ u, u ≤ 11 → Z ((12 * k) + j) 7 = nI u → R9 ((72 + (12 * k)) + gOw x y k mv j) 7 = nI (mv (j + 1 + u) - gOw x y k mv j - 1)) : gIz R9 Z x y k mv n hd := ⟨hm, fun j hj => ⟨fun c hc => (he _ c hc).trans ((h j hj).1 c (by omega)), hl j hj, fun f => ⟨(he _ 0 (by decide)).trans ((h j hj).2 f).1, (he _ 3 (by decide)).trans ((h j hj).2 f).2.1, (he _ 5 (by decide)).trans ((h j hj).2 f).2.2⟩⟩⟩
/-- where INS lie, by the two places -/
theorem gMvd_f {fa fb : Nat} (hx : gPc x fa) (hy : gPc y fb) (hne : fa ≠ fb ∨ fa = 99) (hk : k < 3) (hd6 : hd ≤ 6) (hm : gMvd x y k n hd mv) : ∀ j, j ≤ hd → mv j = gMf fa fb k j ∧ (j < hd → gOw x y k mv j = gOf fa fb k j ∧ (gFx9 x y k j ↔ (fa = 10 * k + j ∨ fb = 10 * k + j)))
  | 0, _ => by
    have z : mv 0 = gMf fa fb k 0 := by rw [gMf_0]; exact hm.1
    refine ⟨z, fun h0 => ?_⟩
    have nf : ¬ (fa = 10 * k + 0 ∨ fb = 10 * k + 0) := by
      rintro (e | e)
      · rcases hx with ⟨_, _, p⟩ | ⟨_, p⟩ <;> omega
      · rcases hy with ⟨_, _, p⟩ | ⟨_, p⟩ <;> omega
    refine ⟨?_, fun q => absurd q.2 (Nat.lt_irrefl 0), fun q => absurd q nf⟩
    unfold gOw gOf
    rw [if_neg (fun q => absurd q.2 (Nat.lt_irrefl 0)), if_neg nf, z]
    omega
  | j + 1, hj => by
    obtain ⟨_, ih⟩ := gMvd_f hx hy hne hk hd6 hm j (by omega)
    obtain ⟨ih1, _⟩ := ih (by omega)
    have z : mv (j + 1) = gMf fa fb k (j + 1) := by
      rw [hm.2.1 j (by omega), ih1, gMf_s hne (by omega)]
    refine ⟨z, fun h0 => ?_⟩
    have iff : gFx9 x y k (j + 1) ↔ (fa = 10 * k + (j + 1) ∨ fb = 10 * k + (j + 1)) := by
      unfold gFx9
      rw [gPc_e hx (c := (10 * k) + (j + 1)) (by omega), gPc_e hy (c := (10 * k) + (j + 1)) (by omega)]
      exact ⟨fun q => q.1, fun q => ⟨q, by omega⟩⟩
    refine ⟨?_, iff⟩
    unfold gOw gOf
    by_cases f : fa = 10 * k + (j + 1) ∨ fb = 10 * k + (j + 1)
    · rw [if_pos (show (x = nI ((10 * k) + (j + 1)) ∨ y = nI ((10 * k) + (j + 1))) ∧ 0 < j + 1 from iff.mpr f), if_pos f, z]
    · rw [if_neg (fun q : (x = nI ((10 * k) + (j + 1)) ∨ y = nI ((10 * k) + (j + 1))) ∧ 0 < j + 1 => f (iff.mp q)), if_neg f, z]
      omega
end IXX
/-- CORES below k are laid -/
def gIy (R Z : Nat → Nat → Int32) (x y : Int32) (Mn C : Nat → Nat) (M9 : Nat → Nat) (k : Nat) : Prop := ∀ j, j < k → j < C 0 → ∃ mv, gIz R Z x y j mv (M9 (6 + j)) (Mn j)
def gFl (M9 : Nat → Nat) (nc : Nat) : Nat → Nat := fun k => if k < nc then M9 (6 + k) else 0
theorem gFl_y {M9 : Nat → Nat} {nc k : Nat} (h : k < nc) : gFl M9 nc k = M9 (6 + k) := if_pos h
theorem gFl_n {M9 : Nat → Nat} {nc k : Nat} (h : nc ≤ k) : gFl M9 nc k = 0 := if_neg (by omega)
/-- the rows of slot 2 as parts -/
def gP9f (R : Nat → Nat → Int32) : Nat → Int32 := fun j => R ((72 + (12 * (j / 64))) + ((j / 8) % 8)) (j % 8)
section IYY
variable {R Z : Nat → Nat → Int32} {x y : Int32} {k i n c nc fa fb : Nat} {Mn C M9 L FL : Nat → Nat} {pf fp : Nat → Int32}
theorem gP9f_e (hi : i < 8) (hc : c < 8) : gP9f R ((((k * 8) + i) * 8) + c) = R ((72 + (12 * k)) + i) c := by
  unfold gP9f
  rw [show (((k * 8) + i) * 8 + c) / 64 = k by omega, show (((k * 8) + i) * 8 + c) / 8 % 8 = i by omega, show (((k * 8) + i) * 8 + c) % 8 = c by omega]
theorem gFnc_9 (hx : gPc x fa) (hy : gPc y fb) (hne : fa ≠ fb ∨ fa = 99) (h3 : nc ≤ 3) (h6 : ∀ k, k < 3 → L k ≤ 6) (hG : bG pf L nc) (hC : C 0 = nc) (hM : ∀ k, k < nc → Mn k = L k) (hZ : ∀ k i, k < nc → i < L k → ∀ c, c < 8 → Z ((12 * k) + i) c = pf ((((k * 8) + i) * 8) + c)) (hR : gIy R Z x y Mn C M9 3) : gFnc pf L nc fa fb (gFl M9 nc) (gP9f R) := by
  intro k hk
  have hk3 : k < 3 := by omega
  have hL := h6 k hk3
  obtain ⟨mv, hm, h⟩ := hR k (by omega) (by omega)
  rw [hM k hk] at hm h
  have hle := gMf_le (a := fa) (b := fb) (k := k) (i := L k)
  refine ⟨?_, fun i hi => ?_⟩
  · rw [gFl_y hk, ← (gMvd_f hx hy hne hk3 hL hm (L k) (Nat.le_refl _)).1]
    exact hm.2.2.symm
  · obtain ⟨m1, m2⟩ := gMvd_f hx hy hne hk3 hL hm i (by omega)
    obtain ⟨m2, m3⟩ := m2 hi
    obtain ⟨p1, p2, p3⟩ := h i hi
    rw [m2] at p1 p2
    rw [m1] at p3
    have ht := gOf_lt (a := fa) (b := fb) (k := k) (i := i) (n := L k) hne (by omega) hi
    have hmo := gMf_mo (a := fa) (b := fb) (k := k) (i := i) (j := L k) (by omega)
    refine ⟨fun c hc => ?_, fun h8 s hs es => ?_, fun f => ?_⟩
    · rw [gP9f_e (by omega) (by omega), p1 c hc, hZ k i hk hi c (by omega)]
    · have hsk := hG.2.2.2.1 k i s hk hi h8 (by omega) es
      have mm := (gMvd_f hx hy hne hk3 hL hm (i + 1 + s) hsk).1
      have ms := gMf_sk (a := fa) (b := fb) (k := k) (i := i) (s := s) hne (by omega)
      rw [gP9f_e (by omega) (by decide), p2 ((hZ k i hk hi 0 (by decide)).trans h8) s (by omega) ((hZ k i hk hi 7 (by decide)).trans es)]
      congr 1
      omega
    · obtain ⟨z0, z3, z5⟩ := p3 (m3.mpr f)
      rw [gP9f_e (by omega) (by decide), gP9f_e (by omega) (by decide), gP9f_e (by omega) (by decide)]
      exact ⟨z0, z3, z5⟩
theorem gIy_s {R9 : Nat → Nat → Int32} {M99 : Nat → Nat} (h : gIy R Z x y Mn C M9 k) (hfr : ∀ j q c, j < k → 72 + (12 * j) ≤ q → q < (72 + (12 * j)) + 12 → c < 8 → R9 q c = R q c) (hM : ∀ j, j < k → M9 (6 + j) ≤ 12) (h9 : ∀ j, j < k → M99 (6 + j) = M9 (6 + j)) (hk : k < C 0 → ∃ mv, gIz R9 Z x y k mv (M99 (6 + k)) (Mn k)) : gIy R9 Z x y Mn C M99 (k + 1) := by
  intro j hj hC
  by_cases e : j = k
  · subst e
    exact hk hC
  · obtain ⟨mv, hz⟩ := h j (by omega) hC
    have := hM j (by omega)
    rw [h9 j (by omega)]
    exact ⟨mv, gIz_e hz (fun q c a b hc => hfr j q c (by omega) a (by omega) hc)⟩
end IYY
/-- skips that are told so far -/
def gLs (kd sk sk9 : Nat → Int32) (x y : Int32) (k : Nat) (mv : Nat → Nat) (i : Nat) : Prop := ∀ j, j < i → kd ((12 * k) + j) = 8 → ∀ u, u ≤ 11 → sk ((12 * k) + j) = nI u → sk9 ((72 + (12 * k)) + gOw x y k mv j) = nI (mv (j + 1 + u) - gOw x y k mv j - 1)
theorem gLs_n {kd sk sk9 : Nat → Int32} {x y : Int32} {k i : Nat} {mv : Nat → Nat} (h : gLs kd sk sk9 x y k mv i) (hk : ¬ kd ((12 * k) + i) = 8) : gLs kd sk sk9 x y k mv (i + 1) := by
  intro j hj h8
  by_cases e : j = i
  · subst e; exact absurd h8 hk
  · exact h j (by omega) h8
theorem gLs_s {kd sk sk9 : Nat → Int32} {x y : Int32} {k n i hd o t a u : Nat} {mv : Nat → Nat} (h : gLs kd sk sk9 x y k mv i) (hm : gMvd x y k n hd mv) (hi : i < hd) (ho : gOw x y k mv i = o) (ha : a = (72 + (12 * k)) + o) (hu : sk ((12 * k) + i) = nI u) (hu11 : u ≤ 11) (ht : t = mv (i + 1 + u)) : gLs kd sk (upd sk9 a (nI (t - o - 1))) x y k mv (i + 1) := by
  subst ho; subst ha; subst ht
  intro j hj h8 v hv ev
  by_cases e : j = i
  · subst e
    have := (nI_eq (a := v) (b := u) (by omega) (by omega)).mp (ev.symm.trans hu)
    subst this
    exact pk_us
  · have := gOw_lt hm (show j < i by omega) hi
    rw [pk_un (by omega)]
    exact h j (by omega) h8 v hv ev
