
/-! the PROGRAM with fences put in -/
/-- the place x is a (99: none) -/
def gPc (x : Int32) (a : Nat) : Prop := (x = nI a ∧ a < 30 ∧ 0 < a % 10) ∨ (x = (-1) ∧ a = 99)
def gMf (a b k i : Nat) : Nat := i + (if 10 * k ≤ a ∧ a < 10 * k + i then 1 else 0) + (if 10 * k ≤ b ∧ b < 10 * k + i then 1 else 0)
def gOf (a b k i : Nat) : Nat := gMf a b k i + (if a = 10 * k + i ∨ b = 10 * k + i then 1 else 0)
def gSf (a b c s : Nat) : Nat := s + (if c < a ∧ a ≤ c + s then 1 else 0) + (if c < b ∧ b ≤ c + s then 1 else 0)
section FEN
variable {a b k i j n s t : Nat} {x y : Int32}
theorem gMf_0 : gMf a b k 0 = 0 := by
  unfold gMf
  split <;> split <;> omega
theorem gMf_s (h : a ≠ b ∨ a = 99) (hb : 10 * k + i < 99) : gMf a b k (i + 1) = gOf a b k i + 1 := by
  unfold gOf gMf
  split <;> split <;> split <;> split <;> split <;> omega
theorem gMf_le : gMf a b k i ≤ i + 2 := by
  unfold gMf
  split <;> split <;> omega
theorem gOf_le (h : a ≠ b ∨ a = 99) (hb : 10 * k + i < 99) : gOf a b k i ≤ i + 2 := by
  unfold gOf gMf
  split <;> split <;> split <;> omega
theorem gMf_mo (h : i ≤ j) : gMf a b k i + (j - i) ≤ gMf a b k j := by
  unfold gMf
  split <;> split <;> split <;> split <;> omega
theorem gOf_lt (h : a ≠ b ∨ a = 99) (hb : 10 * k + i < 99) (hi : i < n) : gOf a b k i < gMf a b k n := by
  have e := gMf_s (k := k) (i := i) h hb
  have m := gMf_mo (a := a) (b := b) (k := k) (i := i + 1) (j := n) hi
  omega
theorem gMf_sk (h : a ≠ b ∨ a = 99) (hb : 10 * k + i + s < 98) : gOf a b k i + 1 + gSf a b (10 * k + i) s = gMf a b k (i + 1 + s) := by
  unfold gOf gMf gSf
  split <;> split <;> split <;> split <;> split <;> split <;> split <;> omega
theorem gMf_su (h : a ≠ b ∨ a = 99) (hk : k < 3) : ∀ n, n ≤ 8 → ∀ t, t < gMf a b k n → ∃ i, i < n ∧ (t = gOf a b k i ∨ ((a = 10 * k + i ∨ b = 10 * k + i) ∧ t = gMf a b k i))
  | 0, _, t, ht => by
    rw [gMf_0] at ht
    exact absurd ht (Nat.not_lt_zero t)
  | n + 1, hn, t, ht => by
    rw [gMf_s h (by omega)] at ht
    by_cases c : t < gMf a b k n
    · obtain ⟨i, hi, q⟩ := gMf_su h hk n (by omega) t c
      exact ⟨i, by omega, q⟩
    · refine ⟨n, by omega, ?_⟩
      by_cases f : a = 10 * k + n ∨ b = 10 * k + n
      · have e : gOf a b k n = gMf a b k n + 1 := by
          unfold gOf
          rw [if_pos f]
        by_cases q : t = gOf a b k n
        · exact Or.inl q
        · exact Or.inr ⟨f, by omega⟩
      · have e : gOf a b k n = gMf a b k n := by
          unfold gOf
          rw [if_neg f]
          omega
        exact Or.inl (by omega)
theorem gPc_e {c : Nat} (h : gPc x a) (hc : c < 30) : x = nI c ↔ a = c := by
  rcases h with ⟨e, h1, _⟩ | ⟨e, h1⟩
  · rw [e]
    exact nI_eq (by omega) (by omega)
  · refine ⟨fun q => ?_, fun q => by omega⟩
    exact absurd (show nI c < 0 by rw [← q, e]; decide) (nI_pos (by omega))
end FEN
/-- core k of fp is that of pf with its fences, up to INS n -/
def gFnk (pf : Nat → Int32) (a b k n : Nat) (fp : Nat → Int32) : Prop := ∀ i, i < n → (∀ c, c < 7 → fp ((((k * 8) + gOf a b k i) * 8) + c) = pf ((((k * 8) + i) * 8) + c)) ∧ (pf ((((k * 8) + i) * 8) + 0) = nI 8 → ∀ s, s ≤ 5 → pf ((((k * 8) + i) * 8) + 7) = nI s → fp ((((k * 8) + gOf a b k i) * 8) + 7) = nI (gSf a b (10 * k + i) s)) ∧ ((a = 10 * k + i ∨ b = 10 * k + i) → fp ((((k * 8) + gMf a b k i) * 8) + 0) = nI 4 ∧ fp ((((k * 8) + gMf a b k i) * 8) + 3) = (-1) ∧ fp ((((k * 8) + gMf a b k i) * 8) + 5) = (-1))
def gFnc (pf : Nat → Int32) (L : Nat → Nat) (nc a b : Nat) (FL : Nat → Nat) (fp : Nat → Int32) : Prop := ∀ k, k < nc → FL k = gMf a b k (L k) ∧ gFnk pf a b k (L k) fp
section FEP
variable {pf fp fp9 : Nat → Int32} {L FL : Nat → Nat} {a b k i n nc : Nat}
theorem gFnk_e (h : gFnk pf a b k n fp) (hne : a ≠ b ∨ a = 99) (hk : k < 3) (hn : n ≤ 6) (e : ∀ j, k * 64 ≤ j → j < k * 64 + 8 * gMf a b k n → fp9 j = fp j) : gFnk pf a b k n fp9 := by
  intro i hi
  have h1 := gOf_lt (a := a) (b := b) (k := k) (i := i) (n := n) hne (by omega) hi
  have h2 := gMf_mo (a := a) (b := b) (k := k) (i := i) (j := n) (by omega)
  obtain ⟨p, q, r⟩ := h i hi
  exact ⟨fun c hc => (e _ (by omega) (by omega)).trans (p c hc), fun h8 s hs es => (e _ (by omega) (by omega)).trans (q h8 s hs es), fun f => ⟨(e _ (by omega) (by omega)).trans (r f).1, (e _ (by omega) (by omega)).trans (r f).2.1, (e _ (by omega) (by omega)).trans (r f).2.2⟩⟩
/-- so many stores as before -/
theorem gCt_f (hne : a ≠ b ∨ a = 99) (hk : k < 3) (h : gFnk pf a b k n fp) (hn : n ≤ 6) : ∀ i, i ≤ n → gCt fp k (gMf a b k i) = gCt pf k i
  | 0, _ => by rw [gMf_0]; rfl
  | i + 1, hi => by
    have ih := gCt_f hne hk h hn i (by omega)
    obtain ⟨p, _, r⟩ := h i (by omega)
    rw [gMf_s hne (by omega)]
    have e1 : gCt fp k (gOf a b k i + 1) = gCt fp k (gOf a b k i) + (if fp ((((k * 8) + gOf a b k i) * 8) + 0) = 1 then 1 else 0) := rfl
    have e2 : gCt pf k (i + 1) = gCt pf k i + (if pf ((((k * 8) + i) * 8) + 0) = 1 then 1 else 0) := rfl
    rw [e1, e2, p 0 (by decide)]
    have e3 : gCt fp k (gOf a b k i) = gCt fp k (gMf a b k i) := by
      by_cases f : a = 10 * k + i ∨ b = 10 * k + i
      · have e : gOf a b k i = gMf a b k i + 1 := by
          unfold gOf
          rw [if_pos f]
        have e4 : gCt fp k (gMf a b k i + 1) = gCt fp k (gMf a b k i) + (if fp ((((k * 8) + gMf a b k i) * 8) + 0) = 1 then 1 else 0) := rfl
        rw [e, e4, (r f).1, if_neg (by decide)]
        omega
      · have e : gOf a b k i = gMf a b k i := by
          unfold gOf
          rw [if_neg f]
          omega
        rw [e]
    rw [e3, ih]
/-- a PROGRAM with its fences is a good one -/
theorem bG_f (hG : bG pf L nc) (h6 : ∀ k, k < 3 → L k ≤ 6) (hI5 : gG L pf 5) (hne : a ≠ b ∨ a = 99) (h : gFnc pf L nc a b FL fp) (h8 : ∀ k, k < 3 → FL k ≤ 8) (hg : gG FL fp 7) : bG fp FL nc := by
  obtain ⟨g1, _, _, g4, g5⟩ := hG
  refine ⟨g1, h8, hg, fun k t y hk ht hq hy ey => ?_, fun k hk => ?_⟩
  · obtain ⟨e1, e2⟩ := h k hk
    have hk3 : k < 3 := by omega
    have hL := h6 k hk3
    rw [e1] at ht ⊢
    obtain ⟨i, hi, q⟩ := gMf_su hne hk3 (L k) (by omega) t ht
    obtain ⟨p1, p2, p3⟩ := e2 i hi
    rcases q with q | ⟨f, q⟩
    · subst q
      have k0 := p1 0 (by decide)
      obtain ⟨q8, hq8, eq8, _, _, _, _, hs⟩ := hI5 k hk3 i hi
      have e8 : q8 = 8 := (nI_eq (a := q8) (b := 8) (by omega) (by decide)).mp (eq8.symm.trans (k0.symm.trans hq))
      obtain ⟨s, hs5, es⟩ := hs e8
      have hsk := g4 k i s hk hi (k0.symm.trans hq) (by omega) es
      have e7 := p2 (k0.symm.trans hq) s hs5 es
      have hsf : gSf a b (10 * k + i) s ≤ s + 2 := by
        unfold gSf
        split <;> split <;> omega
      have ee := (nI_eq (a := y) (b := gSf a b (10 * k + i) s) (by omega) (by omega)).mp (ey.symm.trans e7)
      have m := gMf_sk (a := a) (b := b) (k := k) (i := i) (s := s) hne (by omega)
      have m2 := gMf_mo (a := a) (b := b) (k := k) (i := i + 1 + s) (j := L k) hsk
      omega
    · subst q
      have := (p3 f).1
      exact absurd ((nI_eq (a := 4) (b := 8) (by decide) (by decide)).mp (this.symm.trans hq)) (by decide)
  · obtain ⟨e1, e2⟩ := h k hk
    have hk3 : k < 3 := by omega
    rw [e1, gCt_f hne hk3 e2 (h6 k hk3) (L k) (Nat.le_refl _)]
    exact g5 k hk
end FEP
section FGG
variable {pf fp : Nat → Int32} {L FL : Nat → Nat} {a b nc : Nat}
theorem gG_f (h3 : nc ≤ 3) (h6 : ∀ k, k < 3 → L k ≤ 6) (hI5 : gG L pf 5) (hne : a ≠ b ∨ a = 99) (h : gFnc pf L nc a b FL fp) (h0 : ∀ k, nc ≤ k → k < 3 → FL k = 0) : (∀ k, k < 3 → FL k ≤ 8) ∧ gG FL fp 7 := by
  refine ⟨fun k hk => ?_, fun k hk t ht => ?_⟩
  · by_cases c : k < nc
    · rw [(h k c).1]
      have := gMf_le (a := a) (b := b) (k := k) (i := L k)
      have := h6 k hk
      omega
    · rw [h0 k (by omega) hk]
      decide
  · by_cases c : k < nc
    · obtain ⟨e1, e2⟩ := h k c
      have hL := h6 k hk
      rw [e1] at ht
      obtain ⟨i, hi, q⟩ := gMf_su hne hk (L k) (by omega) t ht
      obtain ⟨p1, p2, p3⟩ := e2 i hi
      rcases q with q | ⟨f, q⟩
      · subst q
        obtain ⟨q8, hq8, eq8, hr, hc, h3, h5, hs⟩ := hI5 k hk i hi
        refine ⟨q8, hq8, (p1 0 (by decide)).trans eq8, fun x y => ?_, fun x y z w => ?_, ?_, ?_, fun e8 => ?_⟩
        · rw [p1 2 (by decide)]; exact hr x y
        · rw [p1 1 (by decide)]; exact hc x y z w
        · rw [p1 3 (by decide)]; exact h3
        · rw [p1 5 (by decide)]; exact h5
        · obtain ⟨s, hs5, es⟩ := hs e8
          have hsf : gSf a b (10 * k + i) s ≤ s + 2 := by
            unfold gSf
            split <;> split <;> omega
          exact ⟨_, by omega, p2 (by rw [eq8, e8]) s hs5 es⟩
      · subst q
        obtain ⟨f1, f2, f3⟩ := p3 f
        exact ⟨4, by decide, f1, fun _ x => absurd rfl x, fun _ _ x => absurd rfl x, Or.inl f2, Or.inl f3, fun x => absurd x (by decide)⟩
    · rw [h0 k (by omega) hk] at ht
      exact absurd ht (Nat.not_lt_zero t)
end FGG
/-! PROGRAMS that do the same -/
def gRe (pf pf9 : Nat → Int32) (n : Nat) : Prop := ((∀ c, c < 7 → pf9 (n + c) = pf (n + c)) ∧ (pf (n + 0) = nI 8 → pf9 (n + 7) = pf (n + 7))) ∨ (pf (n + 0) = nI 4 ∧ pf9 (n + 0) = nI 4)
def gRp (pf pf9 : Nat → Int32) (L : Nat → Nat) (nc : Nat) : Prop := ∀ k i, k < nc → i < L k → gRe pf pf9 (((k * 8) + i) * 8)
section REE
variable {pf pf9 cf cf9 f : Nat → Int32} {L : Nat → Nat} {nc k n : Nat} {m8 x : Int32}
theorem gVl_re (e3 : pf9 n = pf n) (e4 : pf9 (n + 1) = pf (n + 1)) : gVl pf9 f n k = gVl pf f n k := by
  unfold gVl
  rw [e3, e4]
theorem gMK_re (hI : gIns pf n 7) (h : gRe pf pf9 n) : gMK pf9 f k n m8 = gMK pf f k n m8 := by
  obtain ⟨q, hq8, hq, hgr, hgc, h3, h5, hgs⟩ := hI
  rcases h with ⟨h, h7⟩ | ⟨h, h9⟩
  · have e0 := h 0 (by decide)
    have e1 := h 1 (by decide)
    have e2 := h 2 (by decide)
    have v3 : ∀ g, gVl pf9 g (n + 3) k = gVl pf g (n + 3) k := fun g => gVl_re (h 3 (by decide)) (h 4 (by decide))
    have v5 : ∀ g, gVl pf9 g (n + 5) k = gVl pf g (n + 5) k := fun g => gVl_re (h 5 (by decide)) (h 6 (by decide))
    rcases (show q = 0 ∨ q = 1 ∨ q = 2 ∨ q = 3 ∨ q = 4 ∨ (q = 5 ∨ q = 6 ∨ q = 7) ∨ q = 8 by omega) with e | e | e | e | e | e | e
    · subst e
      obtain ⟨r, hr, er⟩ := hgr (by decide) (by decide)
      obtain ⟨x, hx, ex⟩ := hgc (by decide) (by decide) (by decide) (by decide)
      rw [gMK_0 hq er ex hr hx, gMK_0 (e0.trans hq) (e2.trans er) (e1.trans ex) hr hx]
    · subst e
      obtain ⟨x, hx, ex⟩ := hgc (by decide) (by decide) (by decide) (by decide)
      rw [gMK_1 hq ex hx, gMK_1 (e0.trans hq) (e1.trans ex) hx, v3]
    · subst e
      obtain ⟨r, hr, er⟩ := hgr (by decide) (by decide)
      rw [gMK_2 hq er hr, gMK_2 (e0.trans hq) (e2.trans er) hr, v3]
    · subst e
      obtain ⟨r, hr, er⟩ := hgr (by decide) (by decide)
      rw [gMK_3 hq er hr, gMK_3 (e0.trans hq) (e2.trans er) hr, v3]
    · subst e
      rw [gMK_4 hq, gMK_4 (e0.trans hq)]
    · obtain ⟨r, hr, er⟩ := hgr (by omega) (by omega)
      obtain ⟨x, hx, ex⟩ := hgc (by omega) (by omega) (by omega) (by omega)
      rw [gMK_l hq e er ex hr hx, gMK_l (e0.trans hq) e (e2.trans er) (e1.trans ex) hr hx, v3, v5]
    · subst e
      obtain ⟨r, hr, er⟩ := hgr (by decide) (by decide)
      obtain ⟨y, hy, ey⟩ := hgs rfl
      rw [gMK_8 hq er ey hr hy, gMK_8 (e0.trans hq) (e2.trans er) ((h7 hq).trans ey) hr hy]
  · rw [gMK_4 h, gMK_4 h9]
theorem gRe_0 (h : gRe pf pf9 n) : pf9 (n + 0) = pf (n + 0) := by
  rcases h with ⟨h, _⟩ | ⟨h, h9⟩
  · exact h 0 (by decide)
  · exact h9.trans h.symm
theorem gCE_re {L9 : Nat → Nat} (hL : ∀ k, k < nc → L9 k = L k) (h : gRp pf pf9 L nc) : gCE f pf9 L9 nc x ↔ gCE f pf L nc x := by
  constructor
  · rintro (q | ⟨k, hk, a, b, c⟩)
    · exact Or.inl q
    · rw [hL k hk] at b
      rw [gRe_0 (h k _ hk b)] at c
      exact Or.inr ⟨k, hk, a, b, c⟩
  · rintro (q | ⟨k, hk, a, b, c⟩)
    · exact Or.inl q
    · rw [← gRe_0 (h k _ hk b)] at c
      exact Or.inr ⟨k, hk, a, by rw [hL k hk]; exact b, c⟩
theorem gStep_re (h3 : nc ≤ 3) (hI : gG L pf 7) (h : gRp pf pf9 L nc) (hc : gCE f pf L nc x) : gStep pf9 m8 f x = gStep pf m8 f x := by
  rcases hc with ⟨k, hk, e, _⟩ | ⟨k, hk, e, b, _⟩
  · subst e
    rw [gStep_G hk, gStep_G hk]
  · subst e
    have hk3 : k < 3 := by omega
    rw [gStep_K hk3, gStep_K hk3]
    exact gMK_re (hI k hk3 _ b) (h k _ hk b)
theorem bCell_re {L9 : Nat → Nat} (hL : ∀ k, k < nc → L9 k = L k) (h3 : nc ≤ 3) (hI : gG L pf 7) (h : gRp pf pf9 L nc) (T : bT) (n s : Nat) : bCell pf9 L9 nc m8 T n s = bCell pf L nc m8 T n s := by
  by_cases c : gCE (T.2.1 n) pf L nc (nI s)
  · have e := gStep_re (m8 := m8) h3 hI h c
    by_cases d : bSeen (gWd m8 nc) T.1 T.2.1 (gStep pf m8 (T.2.1 n) (nI s))
    · rw [bCell_k (fun q => q.2 d), bCell_k (fun q => q.2 (by rw [e]; exact d))]
    · by_cases g : T.1 < 3000
      · rw [bCell_a c d g, bCell_a ((gCE_re hL h).mpr c) (by rw [e]; exact d) g, e]
      · rw [bCell_f c d g, bCell_f ((gCE_re hL h).mpr c) (by rw [e]; exact d) g]
  · rw [bCell_k (fun q => c q.1), bCell_k (fun q => c ((gCE_re hL h).mp q.1))]
theorem gS0_re (h : ∀ c, c < 4 → cf9 c = cf c) : gS0 cf9 = gS0 cf := by
  funext j
  show (if 9 ≤ j ∧ j < 13 then cf9 (j - 9) else 0) = (if 9 ≤ j ∧ j < 13 then cf (j - 9) else 0)
  by_cases c : 9 ≤ j ∧ j < 13
  · rw [if_pos c, if_pos c]
    exact h _ (by omega)
  · rw [if_neg c, if_neg c]
theorem bRun_re {L9 : Nat → Nat} (hL : ∀ k, k < nc → L9 k = L k) (h3 : nc ≤ 3) (hI : gG L pf 7) (h : gRp pf pf9 L nc) (hc : ∀ c, c < 4 → cf9 c = cf c) : ∀ i, bRun pf9 cf9 L9 nc m8 i = bRun pf cf L nc m8 i
  | 0 => by
    show ((1, fun _ => gS0 cf9, fun _ => (-1), true) : bT) = (1, fun _ => gS0 cf, fun _ => (-1), true)
    rw [gS0_re hc]
  | i + 1 => by
    have ih := bRun_re hL h3 hI h hc i
    by_cases c : (bRun pf cf L nc m8 i).2.2.2 = true ∧ i / 6 < (bRun pf cf L nc m8 i).1
    · rw [bRun_s c, bRun_s (by rw [ih]; exact c), ih]
      exact bCell_re hL h3 hI h _ _ _
    · have e := bRun_k c 1
      have e9 := bRun_k (pf := pf9) (cf := cf9) (L := L9) (i := i) (by rw [ih]; exact c) 1
      rw [e, e9, ih]
theorem bFin_re {L9 : Nat → Nat} (hL : ∀ k, k < nc → L9 k = L k) (h3 : nc ≤ 3) (hI : gG L pf 7) (h : gRp pf pf9 L nc) (hc : ∀ c, c < 4 → cf9 c = cf c) : bFin pf9 cf9 L9 nc m8 = bFin pf cf L nc m8 := by
  rw [bFin_d, bFin_d]
  exact bRun_re hL h3 hI h hc 18000
/-- the places tell the PROGRAM with its fences -/
theorem gFnc_u {fp fp9 : Nat → Int32} {FL FL9 : Nat → Nat} {fa fb : Nat} (hne : fa ≠ fb ∨ fa = 99) (h3 : nc ≤ 3) (h6 : ∀ k, k < 3 → L k ≤ 6) (hI : gG L pf 5) (h : gFnc pf L nc fa fb FL fp) (h9 : gFnc pf L nc fa fb FL9 fp9) : (∀ k, k < nc → FL9 k = FL k) ∧ gRp fp fp9 FL nc := by
  refine ⟨fun k hk => ((h9 k hk).1).trans ((h k hk).1).symm, fun k t hk ht => ?_⟩
  have hk3 : k < 3 := by omega
  have hL := h6 k hk3
  obtain ⟨e1, e2⟩ := h k hk
  obtain ⟨_, g2⟩ := h9 k hk
  rw [e1] at ht
  obtain ⟨i, hi, q⟩ := gMf_su hne hk3 (L k) (by omega) t ht
  obtain ⟨p1, p2, p3⟩ := e2 i hi
  obtain ⟨q1, q2, q3⟩ := g2 i hi
  rcases q with q | ⟨f, q⟩
  · subst q
    refine Or.inl ⟨fun c hc => (q1 c hc).trans (p1 c hc).symm, fun h8 => ?_⟩
    have k8 : pf ((((k * 8) + i) * 8) + 0) = nI 8 := (p1 0 (by decide)).symm.trans h8
    obtain ⟨q8, hq8, eq8, _, _, _, _, hs⟩ := hI k hk3 i hi
    have e8 : q8 = 8 := (nI_eq (a := q8) (b := 8) (by omega) (by decide)).mp (eq8.symm.trans k8)
    obtain ⟨s, hs5, es⟩ := hs e8
    exact (q2 k8 s hs5 es).trans (p2 k8 s hs5 es).symm
  · subst q
    exact Or.inr ⟨(p3 f).1, (q3 f).1⟩
end REE
/-- within, exactly where it matters -/
def gWi (u x y : Int32) (z : Nat) : Prop := ∀ h s b9, h < 30 → s ≤ 5 → u = nI h → x = nI s → gPc y b9 → z = (if h < b9 ∧ b9 ≤ h + s then 1 else 0)
section WII
variable {u x y : Int32} {pg pf1 pf2 : Nat → Int32} {L L1 L2 : Nat → Nat} {fa fb k i nc w : Nat}
theorem gWi_a (h : y ≤ u) : gWi u x y 0 := by
  intro a s b9 ha hs eu ex hp
  subst eu
  rcases hp with ⟨e, h1, _⟩ | ⟨_, e⟩
  · subst e
    have := (nI_leI (a := b9) (b := a) (by omega) (by omega)).mp h
    rw [if_neg (by omega)]
  · rw [if_neg (by omega)]
theorem gWi_m {b9 h : Nat} (hp : gPc y b9) (hh : h < 30) (hu : ¬ y ≤ nI h) : y = nI b9 ∧ b9 < 30 ∧ h < b9 := by
  rcases hp with ⟨e, h1, _⟩ | ⟨e, _⟩
  · subst e
    exact ⟨rfl, h1, Nat.lt_of_not_le (fun q => hu ((nI_leI (a := b9) (b := h) (by omega) (by omega)).mpr q))⟩
  · subst e
    exact absurd (Int32.le_of_lt (Int32.lt_of_lt_of_le (by decide) (Int32.not_lt.mp (nI_pos (n := h) (by omega))))) hu
theorem gWi_b (h1 : ¬ y ≤ u) (h2 : u + x < y) : gWi u x y 0 := by
  intro a s b9 ha hs eu ex hp
  subst eu; subst ex
  obtain ⟨e, k1, k2⟩ := gWi_m hp ha h1
  subst e
  rw [nI_add] at h2
  have := (nI_ltI (a := a + s) (b := b9) (by omega) (by omega)).mp h2
  rw [if_neg (by omega)]
theorem gWi_c (h1 : ¬ y ≤ u) (h2 : ¬ u + x < y) : gWi u x y 1 := by
  intro a s b9 ha hs eu ex hp
  subst eu; subst ex
  obtain ⟨e, k1, k2⟩ := gWi_m hp ha h1
  subst e
  rw [nI_add] at h2
  have : ¬ a + s < b9 := fun q => h2 ((nI_ltI (a := a + s) (b := b9) (by omega) (by omega)).mpr q)
  rw [if_pos (by omega)]
/-- fences are being put in: CORES below k are done -/
def gFs1 (pg : Nat → Int32) (L : Nat → Nat) (fa fb k : Nat) (L1 : Nat → Nat) (pf1 : Nat → Int32) : Prop := (∀ j, j < k → L1 j = gMf fa fb j (L j) ∧ gFnk pg fa fb j (L j) pf1) ∧ ∀ j, k ≤ j → j < 3 → L1 j = 0
/-- of CORE k the first i INS are done -/
def gFs2 (pg : Nat → Int32) (L : Nat → Nat) (fa fb k i : Nat) (L2 : Nat → Nat) (pf2 : Nat → Int32) : Prop := (∀ j, j < k → L2 j = gMf fa fb j (L j) ∧ gFnk pg fa fb j (L j) pf2) ∧ (L2 k = gMf fa fb k i ∧ gFnk pg fa fb k i pf2) ∧ ∀ j, k < j → j < 3 → L2 j = 0
theorem gFs1_0 : gFs1 pg L fa fb 0 (fun _ => 0) pf1 := ⟨fun j h => absurd h (Nat.not_lt_zero j), fun _ _ _ => rfl⟩
theorem gFs2_0 (h : gFs1 pg L fa fb k L1 pf1) (hk : k < 3) : gFs2 pg L fa fb k 0 L1 pf1 := ⟨h.1, ⟨by rw [gMf_0]; exact h.2 k (Nat.le_refl _) hk, fun i hi => absurd hi (Nat.not_lt_zero i)⟩, fun j a b => h.2 j (by omega) b⟩
theorem gFs1_s (h : gFs2 pg L fa fb k i L2 pf2) (hi : i = L k) : gFs1 pg L fa fb (k + 1) L2 pf2 := by
  subst hi
  refine ⟨fun j hj => ?_, fun j a b => h.2.2 j (by omega) b⟩
  by_cases e : j = k
  · subst e; exact h.2.1
  · exact h.1 j (by omega)
/-- the next INS, with a fence ahead of it or without -/
theorem gFs2_s {L3 : Nat → Nat} {pf3 : Nat → Int32} (hne : fa ≠ fb ∨ fa = 99) (h6 : ∀ k, k < 3 → L k ≤ 6) (hk : k < 3) (hi : i < L k) (h : gFs2 pg L fa fb k i L2 pf2) (hL : L3 = updN L2 k (gOf fa fb k i + 1) ∨ (L3 k = gOf fa fb k i + 1 ∧ ∀ j, j ≠ k → L3 j = L2 j)) (ho : ∀ j, (j < ((k * 8) + gMf fa fb k i) * 8 ∨ ((k * 8) + (gOf fa fb k i + 1)) * 8 ≤ j) → pf3 j = pf2 j) (h7 : ∀ c, c < 7 → pf3 ((((k * 8) + gOf fa fb k i) * 8) + c) = pg ((((k * 8) + i) * 8) + c)) (hs : ∀ s, s ≤ 5 → pg ((((k * 8) + i) * 8) + 7) = nI s → pf3 ((((k * 8) + gOf fa fb k i) * 8) + 7) = nI (gSf fa fb (10 * k + i) s)) (hf : (fa = 10 * k + i ∨ fb = 10 * k + i) → pf3 ((((k * 8) + gMf fa fb k i) * 8) + 0) = nI 4 ∧ pf3 ((((k * 8) + gMf fa fb k i) * 8) + 3) = (-1) ∧ pf3 ((((k * 8) + gMf fa fb k i) * 8) + 5) = (-1)) : gFs2 pg L fa fb k (i + 1) L3 pf3 := by
  have hLk : L3 k = gOf fa fb k i + 1 := by
    rcases hL with e | e
    · rw [e, updN_s]
    · exact e.1
  have hLo : ∀ j, j ≠ k → L3 j = L2 j := by
    rcases hL with e | e
    · intro j hj
      rw [e, updN_n hj]
    · exact e.2
  have hl := h6 k hk
  have hle := gOf_le (a := fa) (b := fb) (k := k) (i := i) hne (by omega)
  have hmf := gMf_s (a := fa) (b := fb) (k := k) (i := i) hne (by omega)
  have hge : gMf fa fb k i ≤ gOf fa fb k i := by
    unfold gOf
    omega
  refine ⟨fun j hj => ?_, ⟨by rw [hLk, hmf], fun t ht => ?_⟩, fun j a b => by rw [hLo j (by omega)]; exact h.2.2 j a b⟩
  · obtain ⟨e1, e2⟩ := h.1 j hj
    have m := gMf_le (a := fa) (b := fb) (k := j) (i := L j)
    have := h6 j (by omega)
    exact ⟨by rw [hLo j (by omega)]; exact e1, gFnk_e e2 hne (by omega) (by omega) (fun q a b => ho q (by omega))⟩
  · by_cases e : t = i
    · subst e
      exact ⟨h7, fun _ => hs, hf⟩
    · exact gFnk_e h.2.1.2 hne hk (by omega) (fun q a b => ho q (by omega)) t (by omega)
end WII
section FSX
variable {pg pf2 : Nat → Int32} {L L2 : Nat → Nat} {fa fb k i z1 z2 n n0 : Nat} {v x y : Int32}
theorem gMc_7 {q pf : Nat → Int32} {n0 n c : Nat} {v x : Int32} (hc : c < 7) : upd (va_cpy q (gBlank pf n x) n0 n 8) (n + 7) v (n + c) = q (n0 + c) := by
  rw [pk_un (by omega), pk_cpy_in (by omega) (by omega)]
  congr 1
  omega
theorem gMc_o {q pf : Nat → Int32} {n0 n j : Nat} {v x : Int32} (h : j < n ∨ n + 8 ≤ j) : upd (va_cpy q (gBlank pf n x) n0 n 8) (n + 7) v j = pf j := by
  rw [pk_un (by omega), pk_cpy_out (by omega), gBlank_out h]
theorem gFs2_n (hne : fa ≠ fb ∨ fa = 99) (h6 : ∀ k, k < 3 → L k ≤ 6) (hk : k < 3) (hi : i < L k) (h : gFs2 pg L fa fb k i L2 pf2) (hnf : ¬ (fa = 10 * k + i ∨ fb = 10 * k + i)) (hv : ∀ s, s ≤ 5 → pg ((((k * 8) + i) * 8) + 7) = nI s → v = nI (gSf fa fb (10 * k + i) s)) : gFs2 pg L fa fb k (i + 1) (updN L2 k ((L2 k) + 1)) (upd (va_cpy pg (gBlank pf2 (((k * 8) + (L2 k)) * 8) (pg ((((k * 8) + i) * 8) + 0))) (((k * 8) + i) * 8) (((k * 8) + (L2 k)) * 8) 8) ((((k * 8) + (L2 k)) * 8) + 7) v) := by
  have e : gOf fa fb k i = gMf fa fb k i := by
    unfold gOf
    rw [if_neg hnf]
    omega
  have eL := h.2.1.1
  have eO : gOf fa fb k i = L2 k := by omega
  refine gFs2_s hne h6 hk hi h (Or.inl (by rw [eO])) (fun j hj => ?_) (fun c hc => ?_) (fun s hs es => ?_) (fun q => absurd q hnf)
  · rw [← eL, eO] at hj
    exact gMc_o (by omega)
  · rw [eO]
    exact gMc_7 hc
  · rw [eO, pk_us]
    exact hv s hs es
theorem gFs2_f (hne : fa ≠ fb ∨ fa = 99) (h6 : ∀ k, k < 3 → L k ≤ 6) (hk : k < 3) (hi : i < L k) (h : gFs2 pg L fa fb k i L2 pf2) (hf : fa = 10 * k + i ∨ fb = 10 * k + i) (hv : ∀ s, s ≤ 5 → pg ((((k * 8) + i) * 8) + 7) = nI s → v = nI (gSf fa fb (10 * k + i) s)) : gFs2 pg L fa fb k (i + 1) (updN (updN L2 k ((L2 k) + 1)) k (((updN L2 k ((L2 k) + 1)) k) + 1)) (upd (va_cpy pg (gBlank (gBlank pf2 (((k * 8) + (L2 k)) * 8) 4) (((k * 8) + ((updN L2 k ((L2 k) + 1)) k)) * 8) (pg ((((k * 8) + i) * 8) + 0))) (((k * 8) + i) * 8) (((k * 8) + ((updN L2 k ((L2 k) + 1)) k)) * 8) 8) ((((k * 8) + ((updN L2 k ((L2 k) + 1)) k)) * 8) + 7) v) := by
  rw [updN_s]
  have e : gOf fa fb k i = gMf fa fb k i + 1 := by
    unfold gOf
    rw [if_pos hf]
  have eL := h.2.1.1
  have eO : gOf fa fb k i = L2 k + 1 := by omega
  refine gFs2_s hne h6 hk hi h (Or.inr ⟨by rw [updN_s, eO], fun j hj => by rw [updN_n hj, updN_n hj]⟩) (fun j hj => ?_) (fun c hc => ?_) (fun s hs es => ?_) (fun _ => ?_)
  · rw [← eL, eO] at hj
    rw [gMc_o (by omega), gBlank_out (by omega)]
  · rw [eO]
    exact gMc_7 hc
  · rw [eO, pk_us]
    exact hv s hs es
  · rw [← eL, gMc_o (by omega), gMc_o (by omega), gMc_o (by omega)]
    unfold gBlank
    refine ⟨?_, ?_, ?_⟩
    · rw [pk_un (by omega), pk_un (by omega), pk_un (by omega), pk_un (by omega), pk_un (by omega), pk_un (by omega), pk_un (by omega), pk_us]
      rfl
    · rw [pk_un (by omega), pk_un (by omega), pk_un (by omega), pk_un (by omega), pk_us]
    · rw [pk_un (by omega), pk_un (by omega), pk_us]
theorem gWi_v (hk : k < 3) (hi : i < 6) (hx : gPc x fa) (hy : gPc y fb) (h1 : gWi (nI ((k * 10) + i)) (pg ((((k * 8) + i) * 8) + 7)) x z1) (h2 : gWi (nI ((k * 10) + i)) (pg ((((k * 8) + i) * 8) + 7)) y z2) : ∀ s, s ≤ 5 → pg ((((k * 8) + i) * 8) + 7) = nI s → pg ((((k * 8) + i) * 8) + 7) + nI (z1 + z2) = nI (gSf fa fb (10 * k + i) s) := by
  intro s hs es
  have a := h1 ((k * 10) + i) s fa (by omega) hs rfl es hx
  have b := h2 ((k * 10) + i) s fb (by omega) hs rfl es hy
  rw [es, nI_add, a, b]
  unfold gSf
  rw [show (k * 10) + i = 10 * k + i by omega]
  exact congrArg nI (Nat.add_assoc _ _ _).symm
theorem gPt_y (hk : k < 3) (hi : i < 6) (hx : gPc x fa) (hy : gPc y fb) (h : nI ((k * 10) + i) = x ∨ nI ((k * 10) + i) = y) : fa = 10 * k + i ∨ fb = 10 * k + i := by
  rcases h with h | h
  · exact Or.inl (((gPc_e hx (c := (k * 10) + i) (by omega)).mp h.symm).trans (by omega))
  · exact Or.inr (((gPc_e hy (c := (k * 10) + i) (by omega)).mp h.symm).trans (by omega))
theorem gPt_n (hk : k < 3) (hi : i < 6) (hx : gPc x fa) (hy : gPc y fb) (h1 : ¬ nI ((k * 10) + i) = x) (h2 : ¬ nI ((k * 10) + i) = y) : ¬ (fa = 10 * k + i ∨ fb = 10 * k + i) := by
  rintro (e | e)
  · exact h1 ((gPc_e hx (c := (k * 10) + i) (by omega)).mpr (e.trans (by omega))).symm
  · exact h2 ((gPc_e hy (c := (k * 10) + i) (by omega)).mpr (e.trans (by omega))).symm
theorem gFnc_e {nc : Nat} {L1 : Nat → Nat} {pf1 : Nat → Int32} (h : gFs1 pg L fa fb k L1 pf1) (hk : nc ≤ k) : gFnc pg L nc fa fb L1 pf1 := fun j hj => h.1 j (by omega)
end FSX
