
/-! CURES -/
/-- the search G of a PROGRAM of lengths FL ends with the OUTCOMES that (pf, L) has without ROWS -/
def gSmo (pf cf : Nat → Int32) (L : Nat → Nat) (nc : Nat) (G : bT) (FL : Nat → Nat) : Prop := bEc (fun m => gEd (G.2.1 m) FL nc) G.1 = bEc (fun m => gEd ((bFin pf cf L nc (nI 0)).2.1 m) L nc) (bFin pf cf L nc (nI 0)).1 ∧ ∃ elG el0 : Nat → Nat, bEw G.2.1 (fun m => gEd (G.2.1 m) FL nc) G.1 (bEc (fun m => gEd (G.2.1 m) FL nc) G.1) elG ∧ bEl pf cf L nc 0 el0 ∧ ∀ n, n < bEc (fun m => gEd (G.2.1 m) FL nc) G.1 → ∀ i, i < 13 → G.2.1 (elG n) i = (bFin pf cf L nc (nI 0)).2.1 (el0 n) i
/-- fences at fa, fb: FULL (-2), a CURE (1), none (0) -/
def gCz (pf cf : Nat → Int32) (L : Nat → Nat) (nc fa fb : Nat) (z : Int32) : Prop := ∃ (FL : Nat → Nat) (fp : Nat → Int32), gFnc pf L nc fa fb FL fp ∧ bG fp FL nc ∧ ((z = (-2) ∧ (bFin fp cf FL nc (nI 1)).2.2.2 = false) ∨ ((bFin fp cf FL nc (nI 1)).2.2.2 = true ∧ ((z = 1 ∧ gSmo pf cf L nc (bFin fp cf FL nc (nI 1)) FL) ∨ (z = 0 ∧ ¬ gSmo pf cf L nc (bFin fp cf FL nc (nI 1)) FL))))
section CZZ
variable {pf cf fp : Nat → Int32} {L FL FL9 : Nat → Nat} {nc fa fb : Nat} {z z9 : Int32} {G : bT}
theorem gEd_L {f : Nat → Int32} (h : ∀ k, k < nc → FL9 k = FL k) : gEd f FL9 nc = gEd f FL nc := by
  refine propext ⟨fun q k hk => (q k hk).trans (h k hk), fun q k hk => (q k hk).trans (h k hk).symm⟩
theorem gSmo_L (h : ∀ k, k < nc → FL9 k = FL k) : gSmo pf cf L nc G FL9 = gSmo pf cf L nc G FL := by
  unfold gSmo
  rw [show (fun m => gEd (G.2.1 m) FL9 nc) = (fun m => gEd (G.2.1 m) FL nc) from funext (fun m => gEd_L h)]
theorem gCz_u (hne : fa ≠ fb ∨ fa = 99) (h3 : nc ≤ 3) (h6 : ∀ k, k < 3 → L k ≤ 6) (hI : gG L pf 5) (h : gCz pf cf L nc fa fb z) (h9 : gCz pf cf L nc fa fb z9) : z = z9 := by
  obtain ⟨FL, fp, a, b, c⟩ := h
  obtain ⟨FL9, fp9, a9, b9, c9⟩ := h9
  obtain ⟨e1, e2⟩ := gFnc_u hne h3 h6 hI a a9
  have e := bFin_re (m8 := nI 1) (cf := cf) (cf9 := cf) e1 h3 b.2.2.1 e2 (fun _ _ => rfl)
  rw [e, gSmo_L e1] at c9
  rcases c with ⟨c1, c2⟩ | ⟨c1, c2⟩ <;> rcases c9 with ⟨d1, d2⟩ | ⟨d1, d2⟩
  · exact c1.trans d1.symm
  · exact absurd (d1.symm.trans c2) (by decide)
  · exact absurd (c1.symm.trans d2) (by decide)
  · rcases c2 with ⟨p, q⟩ | ⟨p, q⟩ <;> rcases d2 with ⟨r, s⟩ | ⟨r, s⟩
    · exact p.trans r.symm
    · exact absurd q s
    · exact absurd s q
    · exact p.trans r.symm
/-- which it is, by some lists of the ends -/
theorem gSmo_i {elG el0 : Nat → Nat} (hGf : bG fp FL nc) (hG : bG pf L nc) (h1 : bEw (bFin fp cf FL nc (nI 1)).2.1 (fun m => gEd ((bFin fp cf FL nc (nI 1)).2.1 m) FL nc) (bFin fp cf FL nc (nI 1)).1 (bEc (fun m => gEd ((bFin fp cf FL nc (nI 1)).2.1 m) FL nc) (bFin fp cf FL nc (nI 1)).1) elG) (h0 : bEl pf cf L nc 0 el0) : gSmo pf cf L nc (bFin fp cf FL nc (nI 1)) FL ↔ (bEc (fun m => gEd ((bFin fp cf FL nc (nI 1)).2.1 m) FL nc) (bFin fp cf FL nc (nI 1)).1 = bEc (fun m => gEd ((bFin pf cf L nc (nI 0)).2.1 m) L nc) (bFin pf cf L nc (nI 0)).1 ∧ ∀ n, n < bEc (fun m => gEd ((bFin fp cf FL nc (nI 1)).2.1 m) FL nc) (bFin fp cf FL nc (nI 1)).1 → ∀ i, i < 13 → (bFin fp cf FL nc (nI 1)).2.1 (elG n) i = (bFin pf cf L nc (nI 0)).2.1 (el0 n) i) := by
  constructor
  · rintro ⟨a, e1, e0, k1, k0, q⟩
    refine ⟨a, fun n hn i hi => ?_⟩
    rw [bEl_u (pf := fp) (L := FL) (a := 1) (by decide) hGf h1 k1 n hn, bEl_u (a := 0) (by decide) hG h0 k0 n (by rw [← a]; exact hn)]
    exact q n hn i hi
  · rintro ⟨a, q⟩
    exact ⟨a, elG, el0, h1, h0, q⟩
end CZZ
def gPn (L : Nat → Nat) : Nat → Nat
  | 0 => 0
  | k + 1 => gPn L k + (L k - 1)
/-- place number a is c -/
def gPo (L : Nat → Nat) (nc a c : Nat) : Prop := ∃ k i, k < nc ∧ 1 ≤ i ∧ i < L k ∧ c = 10 * k + i ∧ a = gPn L k + (i - 1)
section PLA
variable {L : Nat → Nat} {nc a c c9 k i : Nat}
theorem gPn_mo : ∀ d k, gPn L k ≤ gPn L (k + d)
  | 0, _ => Nat.le_refl _
  | d + 1, k => Nat.le_trans (gPn_mo d k) (Nat.le_add_right _ _)
theorem gPo_lt (h : gPo L nc a c) : a < gPn L nc := by
  obtain ⟨k, i, h1, h2, h3, _, h5⟩ := h
  have e : gPn L (k + 1) = gPn L k + (L k - 1) := rfl
  have m := gPn_mo (L := L) (nc - (k + 1)) (k + 1)
  rw [show k + 1 + (nc - (k + 1)) = nc by omega] at m
  omega
theorem gPo_u (h : gPo L nc a c) (h9 : gPo L nc a c9) : c = c9 := by
  obtain ⟨k, i, h1, h2, h3, h4, h5⟩ := h
  obtain ⟨k9, i9, g1, g2, g3, g4, g5⟩ := h9
  have e : gPn L (k + 1) = gPn L k + (L k - 1) := rfl
  have e9 : gPn L (k9 + 1) = gPn L k9 + (L k9 - 1) := rfl
  rcases Nat.lt_trichotomy k k9 with q | q | q
  · have m := gPn_mo (L := L) (k9 - (k + 1)) (k + 1)
    rw [show k + 1 + (k9 - (k + 1)) = k9 by omega] at m
    omega
  · subst q
    omega
  · have m := gPn_mo (L := L) (k - (k9 + 1)) (k9 + 1)
    rw [show k9 + 1 + (k - (k9 + 1)) = k by omega] at m
    omega
theorem gPo_in {c9 b : Nat} (h6 : ∀ k, k < 3 → L k ≤ 6) (h3 : nc ≤ 3) (h : gPo L nc a c) (h9 : gPo L nc b c9) (hab : a < b) : c < c9 := by
  obtain ⟨k, i, h1, h2, h3, h4, h5⟩ := h
  obtain ⟨k9, i9, g1, g2, g3, g4, g5⟩ := h9
  have e : gPn L (k + 1) = gPn L k + (L k - 1) := rfl
  have e9 : gPn L (k9 + 1) = gPn L k9 + (L k9 - 1) := rfl
  have hl := h6 k (by omega)
  rcases Nat.lt_trichotomy k k9 with q | q | q
  · omega
  · subst q
    omega
  · have m := gPn_mo (L := L) (k - (k9 + 1)) (k9 + 1)
    rw [show k9 + 1 + (k - (k9 + 1)) = k by omega] at m
    omega
theorem gPo_pc (h6 : ∀ k, k < 3 → L k ≤ 6) (h3 : nc ≤ 3) (h : gPo L nc a c) : gPc (nI c) c ∧ c ≠ 99 := by
  obtain ⟨k, i, h1, h2, h3, h4, h5⟩ := h
  have := h6 k (by omega)
  exact ⟨Or.inl ⟨rfl, by omega, by omega⟩, by omega⟩
end PLA
/-- pairs (a, b) in the order in which size s looks at them; what stands at (a, b) -/
def gQs (L : Nat → Nat) (nc s a b fa fb : Nat) : Prop := (s = 0 ∧ a = 0 ∧ b = 0 ∧ fa = 99 ∧ fb = 99) ∨ (s = 1 ∧ b = 0 ∧ gPo L nc a fa ∧ fb = 99) ∨ (s = 2 ∧ a < b ∧ gPo L nc a fa ∧ gPo L nc b fb)
def gLx (a b a9 b9 : Nat) : Prop := a < a9 ∨ (a = a9 ∧ b < b9)
/-- what looking at size s tells -/
def gZs (pf cf : Nat → Int32) (L : Nat → Nat) (nc s : Nat) (z : Int32) : Prop := (z = (-1) ∧ ∀ a b fa fb, gQs L nc s a b fa fb → gCz pf cf L nc fa fb 0) ∨ ∃ a b fa fb, gQs L nc s a b fa fb ∧ (∀ a9 b9 fa9 fb9, gLx a9 b9 a b → gQs L nc s a9 b9 fa9 fb9 → gCz pf cf L nc fa9 fb9 0) ∧ ((gCz pf cf L nc fa fb (-2) ∧ z = (-2)) ∨ (gCz pf cf L nc fa fb 1 ∧ z = nI s))
/-- cure(n) of a PROGRAM whose search without ROWS is whole -/
def gCnr (pf cf : Nat → Int32) (L : Nat → Nat) (nc n : Nat) (z : Int32) : Prop := ∃ s, s ≤ n ∧ (∀ t, t < s → gZs pf cf L nc t (-1)) ∧ gZs pf cf L nc s z ∧ (¬ z = (-1) ∨ s = n)
def rCu (pf cf : Nat → Int32) (L : Nat → Nat) (nc : Nat) (ld x z : Int32) : Prop := (∃ n, n ≤ 2 ∧ x = nI n ∧ ¬ ld = 0 ∧ (((bFin pf cf L nc (nI 0)).2.2.2 = false ∧ z = (-2)) ∨ ((bFin pf cf L nc (nI 0)).2.2.2 = true ∧ gCnr pf cf L nc n z))) ∨ (z = (-1) ∧ ∀ n, n ≤ 2 → x = nI n → ld = 0)
section CUU
variable {pf cf : Nat → Int32} {L : Nat → Nat} {nc s n a b fa fb a9 b9 fa9 fb9 : Nat} {z z9 ld x : Int32}
theorem gQs_ne (h6 : ∀ k, k < 3 → L k ≤ 6) (h3 : nc ≤ 3) (h : gQs L nc s a b fa fb) : fa ≠ fb ∨ fa = 99 := by
  rcases h with ⟨_, _, _, e, _⟩ | ⟨_, _, h, e⟩ | ⟨_, hab, h, h'⟩
  · exact Or.inr e
  · have := (gPo_pc h6 h3 h).2
    exact Or.inl (by omega)
  · have := gPo_in h6 h3 h h' hab
    exact Or.inl (by omega)
theorem gQs_u (h : gQs L nc s a b fa fb) (h9 : gQs L nc s a b fa9 fb9) : fa = fa9 ∧ fb = fb9 := by
  rcases h with ⟨e, _, _, p, q⟩ | ⟨e, _, p, q⟩ | ⟨e, _, p, q⟩ <;> rcases h9 with ⟨e9, _, _, p9, q9⟩ | ⟨e9, _, p9, q9⟩ | ⟨e9, _, p9, q9⟩
  · exact ⟨p.trans p9.symm, q.trans q9.symm⟩
  · omega
  · omega
  · omega
  · exact ⟨gPo_u p p9, q.trans q9.symm⟩
  · omega
  · omega
  · omega
  · exact ⟨gPo_u p p9, gPo_u q q9⟩
theorem gZs_u (h3 : nc ≤ 3) (h6 : ∀ k, k < 3 → L k ≤ 6) (hI : gG L pf 5) (hs : s ≤ 2) (h : gZs pf cf L nc s z) (h9 : gZs pf cf L nc s z9) : z = z9 := by
  have no : ∀ {a b fa fb : Nat} {w : Int32}, gQs L nc s a b fa fb → gCz pf cf L nc fa fb w → gCz pf cf L nc fa fb 0 → w = 0 := fun q p r => gCz_u (gQs_ne h6 h3 q) h3 h6 hI p r
  rcases h with ⟨e, h⟩ | ⟨a, b, fa, fb, h1, h2, h4⟩ <;> rcases h9 with ⟨e9, h9⟩ | ⟨a9, b9, fa9, fb9, g1, g2, g4⟩
  · exact e.trans e9.symm
  · rcases g4 with ⟨p, _⟩ | ⟨p, _⟩
    · exact absurd (no g1 p (h _ _ _ _ g1)) (by decide)
    · exact absurd (no g1 p (h _ _ _ _ g1)) (by decide)
  · rcases h4 with ⟨p, _⟩ | ⟨p, _⟩
    · exact absurd (no h1 p (h9 _ _ _ _ h1)) (by decide)
    · exact absurd (no h1 p (h9 _ _ _ _ h1)) (by decide)
  · have tri : gLx a b a9 b9 ∨ (a = a9 ∧ b = b9) ∨ gLx a9 b9 a b := by
      unfold gLx
      omega
    rcases tri with q | ⟨q1, q2⟩ | q
    · rcases h4 with ⟨p, _⟩ | ⟨p, _⟩
      · exact absurd (no h1 p (g2 _ _ _ _ q h1)) (by decide)
      · exact absurd (no h1 p (g2 _ _ _ _ q h1)) (by decide)
    · subst q1; subst q2
      obtain ⟨e1, e2⟩ := gQs_u h1 g1
      subst e1; subst e2
      have hne := gQs_ne h6 h3 h1
      rcases h4 with ⟨p, r⟩ | ⟨p, r⟩ <;> rcases g4 with ⟨p9, r9⟩ | ⟨p9, r9⟩
      · exact r.trans r9.symm
      · exact absurd (gCz_u hne h3 h6 hI p p9) (by decide)
      · exact absurd (gCz_u hne h3 h6 hI p p9) (by decide)
      · exact r.trans r9.symm
    · rcases g4 with ⟨p, _⟩ | ⟨p, _⟩
      · exact absurd (no g1 p (h2 _ _ _ _ q g1)) (by decide)
      · exact absurd (no g1 p (h2 _ _ _ _ q g1)) (by decide)
theorem gCnr_u (h3 : nc ≤ 3) (h6 : ∀ k, k < 3 → L k ≤ 6) (hI : gG L pf 5) (hn : n ≤ 2) (h : gCnr pf cf L nc n z) (h9 : gCnr pf cf L nc n z9) : z = z9 := by
  obtain ⟨s, a1, a2, a3, a4⟩ := h
  obtain ⟨s9, b1, b2, b3, b4⟩ := h9
  rcases Nat.lt_trichotomy s s9 with q | q | q
  · have := gZs_u h3 h6 hI (by omega) a3 (b2 s q)
    rcases a4 with a4 | a4
    · exact absurd this a4
    · omega
  · subst q
    exact gZs_u h3 h6 hI (by omega) a3 b3
  · have := gZs_u h3 h6 hI (by omega) b3 (a2 s9 q)
    rcases b4 with b4 | b4
    · exact absurd this b4
    · omega
theorem rCu_u (hg : nc ≤ 3 ∧ (∀ j, j < 3 → L j ≤ 6) ∧ gG L pf 5) (h : rCu pf cf L nc ld x z) (h9 : rCu pf cf L nc ld x z9) : z = z9 := by
  rcases h with ⟨n, a1, a2, a3, a4⟩ | ⟨a1, a2⟩ <;> rcases h9 with ⟨n9, b1, b2, b3, b4⟩ | ⟨b1, b2⟩
  · have e := (nI_eq (a := n) (b := n9) (by omega) (by omega)).mp (a2.symm.trans b2)
    subst e
    rcases a4 with ⟨c, d⟩ | ⟨c, d⟩ <;> rcases b4 with ⟨c9, d9⟩ | ⟨c9, d9⟩
    · exact d.trans d9.symm
    · exact absurd (c9.symm.trans c) (by decide)
    · exact absurd (c.symm.trans c9) (by decide)
    · exact gCnr_u hg.1 hg.2.1 hg.2.2 a1 d d9
  · exact absurd (b2 n a1 a2) a3
  · exact absurd (a2 n9 b1 b2) b3
  · exact a1.trans b1.symm
end CUU
/-- the class remembers what it has looked at -/
def gCmm (pf cf : Nat → Int32) (L : Nat → Nat) (nc lz : Nat) (an : Int32) : Prop := (∀ s, s + 1 < lz → gZs pf cf L nc s (-1)) ∧ (lz = 0 → an = (-1)) ∧ (0 < lz → gZs pf cf L nc (lz - 1) an)
section CMM
variable {pf cf : Nat → Int32} {L : Nat → Nat} {nc lz n s : Nat} {an z : Int32}
theorem gCmm_0 : gCmm pf cf L nc 0 (-1) := ⟨fun s h => absurd h (by omega), fun _ => rfl, fun h => absurd h (by decide)⟩
theorem gCmm_s (h : gCmm pf cf L nc lz an) (ha : an = (-1)) (hz : gZs pf cf L nc lz z) : gCmm pf cf L nc (lz + 1) z := by
  refine ⟨fun s hs => ?_, fun h => absurd h (by omega), fun _ => hz⟩
  by_cases e : s + 1 = lz
  · have := h.2.2 (by omega)
    rw [show lz - 1 = s by omega, ha] at this
    exact this
  · exact h.1 s (by omega)
theorem gCmm_far (h : gCmm pf cf L nc lz an) (hn : n + 1 < lz) : gCnr pf cf L nc n (-1) := ⟨n, Nat.le_refl _, fun t ht => h.1 t (by omega), h.1 n hn, Or.inr rfl⟩
theorem gCmm_near (h : gCmm pf cf L nc lz an) (h0 : 0 < lz) (hn : lz ≤ n + 1) (he : ¬ an = (-1) ∨ lz = n + 1) : gCnr pf cf L nc n an := ⟨lz - 1, by omega, fun t ht => h.1 t (by omega), h.2.2 h0, he.imp id (fun e => by omega)⟩
end CMM
def gPz (L : Nat → Nat) (n a : Nat) (z : Int32) : Prop := ∃ c, z = nI c ∧ gPo L n a c
/-- all pairs ahead of (a, b) are no CURES -/
def gZb (pf cf : Nat → Int32) (L : Nat → Nat) (nc s a b : Nat) : Prop := ∀ a9 b9 fa9 fb9, gLx a9 b9 a b → gQs L nc s a9 b9 fa9 fb9 → gCz pf cf L nc fa9 fb9 0
/-- isSame -/
def gIsm (rec rf : Nat → Int32) (el : Nat → Nat) (wd es s1 : Nat) : Prop := es = s1 ∧ ∀ n, n < s1 → ∀ i, i < 13 → rec ((n * 17) + i) = rf ((el n * wd) + i)
section LKK
variable {pf cf fp rf cm rec : Nat → Int32} {L FL el : Nat → Nat} {nc s a b fa fb wd sz es st s1 : Nat} {z ofl : Int32}
theorem gZb_0 : gZb pf cf L nc s 0 0 := fun a9 b9 _ _ h => by
  unfold gLx at h
  omega
theorem gZb_i (h : gZb pf cf L nc 2 a 0) : gZb pf cf L nc 2 a (a + 1) := fun a9 b9 fa9 fb9 hl hq => by
  rcases id hq with ⟨e, _⟩ | ⟨e, _⟩ | ⟨_, hab, _⟩
  · omega
  · omega
  · refine h a9 b9 fa9 fb9 ?_ hq
    unfold gLx at hl ⊢
    omega
theorem gZb_b (h : gZb pf cf L nc s a b) (hq : gQs L nc s a b fa fb) (hz : gCz pf cf L nc fa fb 0) : gZb pf cf L nc s a (b + 1) := fun a9 b9 fa9 fb9 hl hq9 => by
  by_cases e : a9 = a ∧ b9 = b
  · obtain ⟨e1, e2⟩ := e
    subst e1; subst e2
    obtain ⟨q1, q2⟩ := gQs_u hq hq9
    subst q1; subst q2
    exact hz
  · refine h a9 b9 fa9 fb9 ?_ hq9
    unfold gLx at hl ⊢
    omega
theorem gQs_b (h : gQs L nc s a b fa fb) : (s = 0 ∧ a = 0 ∧ b = 0) ∨ (s = 1 ∧ b = 0 ∧ a < gPn L nc) ∨ (s = 2 ∧ a < gPn L nc ∧ b < gPn L nc) := by
  rcases h with ⟨e, h1, h2, _⟩ | ⟨e, h1, h2, _⟩ | ⟨e, _, h2, h3⟩
  · exact Or.inl ⟨e, h1, h2⟩
  · exact Or.inr (Or.inl ⟨e, h1, gPo_lt h2⟩)
  · exact Or.inr (Or.inr ⟨e, gPo_lt h2, gPo_lt h3⟩)
theorem gZb_a (h : gZb pf cf L nc s a b) (hb : (s < 2 ∧ 1 ≤ b) ∨ (s = 2 ∧ gPn L nc ≤ b)) : gZb pf cf L nc s (a + 1) 0 := fun a9 b9 fa9 fb9 hl hq => by
  have q := gQs_b hq
  refine h a9 b9 fa9 fb9 ?_ hq
  unfold gLx at hl ⊢
  omega
theorem gZs_n (h : gZb pf cf L nc s a 0) (ha : (s = 0 ∧ 1 ≤ a) ∨ (0 < s ∧ gPn L nc ≤ a)) : gZs pf cf L nc s (-1) := Or.inl ⟨rfl, fun a9 b9 fa9 fb9 hq => by
  have q := gQs_b hq
  refine h a9 b9 fa9 fb9 ?_ hq
  unfold gLx
  omega⟩
theorem gZs_f (h : gZb pf cf L nc s a b) (hq : gQs L nc s a b fa fb) (hz : gCz pf cf L nc fa fb (-2)) : gZs pf cf L nc s (-2) := Or.inr ⟨a, b, fa, fb, hq, h, Or.inl ⟨hz, rfl⟩⟩
theorem gZs_y (h : gZb pf cf L nc s a b) (hq : gQs L nc s a b fa fb) (hz : gCz pf cf L nc fa fb 1) : gZs pf cf L nc s (nI s) := Or.inr ⟨a, b, fa, fb, hq, h, Or.inr ⟨hz, rfl⟩⟩
theorem gRp_r {pf : Nat → Int32} {L : Nat → Nat} : gRp pf pf L nc := fun _ _ _ _ => Or.inl ⟨fun _ _ => rfl, fun _ => rfl⟩
theorem gCz_f (hfn : gFnc pf L nc fa fb FL fp) (hbf : bG fp FL nc) (h : (bFin fp cf FL nc (nI 1)).2.2.2 = false) : gCz pf cf L nc fa fb (-2) := ⟨FL, fp, hfn, hbf, Or.inl ⟨rfl, h⟩⟩
theorem gCz_8 (hfn : gFnc pf L nc fa fb FL fp) (hbf : bG fp FL nc) (hbG : bG pf L nc) (hcl : bCl (bFin fp cf FL nc (nI 1)) wd sz rf cm) (hw : 16 ≤ wd) (hes : es = bEc (fun m => gEd ((bFin fp cf FL nc (nI 1)).2.1 m) FL nc) sz) (hbw : bEw (bFin fp cf FL nc (nI 1)).2.1 (fun m => gEd ((bFin fp cf FL nc (nI 1)).2.1 m) FL nc) sz es el) (hFo : fSp pf cf L nc 0 ofl st s1 rec) (h0 : ofl = 0) (hz : (z = 1 ∧ gIsm rec rf el wd es s1) ∨ (z = 0 ∧ ¬ gIsm rec rf el wd es s1)) : gCz pf cf L nc fa fb z := by
  obtain ⟨w0, _, a3, el0, a4, a5⟩ := fSp_1 hFo h0
  obtain ⟨b1, b2, b3, _⟩ := hcl
  rw [a3] at a4 a5 hz
  have hel := hbw
  rw [hes, ← b2] at hbw
  have key := gSmo_i (el0 := el0) hbf hbG hbw a4
  have iff : gIsm rec rf el wd es (bEc (fun m => gEd ((bFin pf cf L nc (nI 0)).2.1 m) L nc) (bFin pf cf L nc (nI 0)).1) ↔ gSmo pf cf L nc (bFin fp cf FL nc (nI 1)) FL := by
    rw [key]
    unfold gIsm
    rw [b2, ← hes]
    constructor
    · rintro ⟨e, q⟩
      refine ⟨e, fun n hn i hi => ?_⟩
      have hn' : n < bEc (fun m => gEd ((bFin pf cf L nc (nI 0)).2.1 m) L nc) (bFin pf cf L nc (nI 0)).1 := by rw [← e]; exact hn
      rw [← (a5 n hn').1 i hi, q n hn' i hi]
      exact (b3 (el n) (hel.1 n hn).1 i (by omega)).symm
    · rintro ⟨e, q⟩
      refine ⟨e, fun n hn i hi => ?_⟩
      have hn' : n < es := by rw [e]; exact hn
      rw [(a5 n hn).1 i hi, ← q n hn' i hi]
      exact (b3 (el n) (hel.1 n hn').1 i (by omega)).symm
  refine ⟨FL, fp, hfn, hbf, Or.inr ⟨b1, ?_⟩⟩
  rcases hz with ⟨p, q⟩ | ⟨p, q⟩
  · exact Or.inl ⟨p, iff.mp q⟩
  · exact Or.inr ⟨p, fun r => q (iff.mpr r)⟩
/-- what is remembered, FULL or not -/
def gCmf (pf cf : Nat → Int32) (L : Nat → Nat) (nc lz : Nat) (an : Int32) : Prop := ((bFin pf cf L nc (nI 0)).2.2.2 = true ∧ gCmm pf cf L nc lz an) ∨ ((bFin pf cf L nc (nI 0)).2.2.2 = false ∧ ((lz = 0 ∧ an = (-1)) ∨ (lz = 1 ∧ an = (-2))))
theorem gCmf_0 : gCmf pf cf L nc 0 (-1) := by
  by_cases c : (bFin pf cf L nc (nI 0)).2.2.2 = true
  · exact Or.inl ⟨c, gCmm_0⟩
  · exact Or.inr ⟨Bool.eq_false_iff.mpr c, Or.inl ⟨rfl, rfl⟩⟩
theorem gCmf_f {lz : Nat} {an : Int32} (h : gCmf pf cf L nc lz an) (ha : an = (-1)) (hw : (bFin pf cf L nc (nI 0)).2.2.2 = false) : gCmf pf cf L nc (lz + 1) (-2) := by
  rcases h with ⟨c, _⟩ | ⟨_, ⟨e, _⟩ | ⟨_, e⟩⟩
  · exact absurd (c.symm.trans hw) (by decide)
  · exact Or.inr ⟨hw, Or.inr ⟨by omega, rfl⟩⟩
  · exact absurd (ha.symm.trans e) (by decide)
theorem gCmf_s {lz : Nat} {an z : Int32} (h : gCmf pf cf L nc lz an) (ha : an = (-1)) (hw : (bFin pf cf L nc (nI 0)).2.2.2 = true) (hz : gZs pf cf L nc lz z) : gCmf pf cf L nc (lz + 1) z := by
  rcases h with ⟨c, q⟩ | ⟨c, _⟩
  · exact Or.inl ⟨c, gCmm_s q ha hz⟩
  · exact absurd (hw.symm.trans c) (by decide)
def gCrr (pf cf : Nat → Int32) (L : Nat → Nat) (nc n : Nat) (z : Int32) : Prop := ((bFin pf cf L nc (nI 0)).2.2.2 = false ∧ z = (-2)) ∨ ((bFin pf cf L nc (nI 0)).2.2.2 = true ∧ gCnr pf cf L nc n z)
theorem gCmf_far {lz n : Nat} {an : Int32} (h : gCmf pf cf L nc lz an) (hn : n + 1 < lz) : gCrr pf cf L nc n (-1) := by
  rcases h with ⟨c, q⟩ | ⟨c, ⟨e, _⟩ | ⟨e, _⟩⟩
  · exact Or.inr ⟨c, gCmm_far q hn⟩
  · omega
  · omega
theorem gCmf_near {lz n : Nat} {an : Int32} (h : gCmf pf cf L nc lz an) (h0 : 0 < lz) (hn : lz ≤ n + 1) (he : ¬ an = (-1) ∨ lz = n + 1) : gCrr pf cf L nc n an := by
  rcases h with ⟨c, q⟩ | ⟨c, ⟨e, _⟩ | ⟨_, e⟩⟩
  · exact Or.inr ⟨c, gCmm_near q h0 hn he⟩
  · omega
  · exact Or.inl ⟨c, e⟩
end LKK
section RF9
variable {pf cf fp sf fr bf : Nat → Int32} {L FL el0 elg S E : Nat → Nat} {nc fa fb : Nat} {z : Int32}
theorem rP9_2 {kd cl rg v1 i1 v2 i2 sk : Nat → Int32} {C M9 : Nat → Nat} (hC : C 0 = nc) (h3 : nc ≤ 3) (h8 : ∀ k, k < 3 → gFl M9 nc k ≤ 8) : rP9 (updN C 2 (C 0)) M9 kd cl rg v1 i1 v2 i2 sk 2 nc (gFl M9 nc) (gP9f (rP8 kd cl rg v1 i1 v2 i2 sk)) := by
  refine ⟨updN_s.trans hC, fun k hk => ?_, fun k i hk hi c hc => ?_⟩
  · rw [gFl_y hk]
  · have := h8 k (by omega)
    rw [gP9f_e (by omega) hc]
theorem rP9_s8 {C Mn C9 Mn9 : Nat → Nat} {kd cl rg v1 i1 v2 i2 sk kd9 cl9 rg9 v19 i19 v29 i29 sk9 : Nat → Int32} (h3 : nc ≤ 3) (h6 : ∀ k, k < 3 → L k ≤ 6) (h : rP9 C Mn kd cl rg v1 i1 v2 i2 sk 0 nc L pf) (hC : C9 0 = C 0) (hM : ∀ j, j < 3 → Mn9 j = Mn j) (k8 : gS8 kd cl rg v1 i1 v2 i2 sk kd9 cl9 rg9 v19 i19 v29 i29 sk9) : rP9 C9 Mn9 kd9 cl9 rg9 v19 i19 v29 i29 sk9 0 nc L pf := by
  obtain ⟨a, b, d⟩ := h
  obtain ⟨e0, e1, e2, e3, e4, e5, e6, e7⟩ := k8
  refine ⟨hC.trans a, fun k hk => ?_, fun k i hk hi c hc => ?_⟩
  · rw [hM _ (by omega)]
    exact b k hk
  · have hl := h6 k (by omega)
    rw [gR8_e hc (e0 _ (by omega)) (e1 _ (by omega)) (e2 _ (by omega)) (e3 _ (by omega)) (e4 _ (by omega)) (e5 _ (by omega)) (e6 _ (by omega)) (e7 _ (by omega))]
    exact d k i hk hi c hc
/-- the reference's cures -/
def gIs9 (sf : Nat → Int32) (E elg el0 : Nat → Nat) : Prop := E 2 = E 0 ∧ ∀ n, n < E 0 → ∀ i, i < 13 → gTo sf 2 (elg n) i = gTo sf 0 (el0 n) i
theorem gCz_9 (hfn : gFnc pf L nc fa fb FL fp) (hbf : bG fp FL nc) (hbG : bG pf L nc) (hb2 : b9 (bFin fp cf FL nc (nI 1)) (nI 1) nc 2 (S 2) sf fr bf) (hE2 : E 2 = bEc (fun m => gEd ((bFin fp cf FL nc (nI 1)).2.1 m) FL nc) (S 2)) (hw2 : bEw (bFin fp cf FL nc (nI 1)).2.1 (fun m => gEd ((bFin fp cf FL nc (nI 1)).2.1 m) FL nc) (S 2) (E 2) elg) (hb0 : b9 (bFin pf cf L nc (nI 0)) (nI 0) nc 0 (S 0) sf fr bf) (hE0 : E 0 = bEc (fun m => gEd ((bFin pf cf L nc (nI 0)).2.1 m) L nc) (S 0)) (hw0 : bEw (bFin pf cf L nc (nI 0)).2.1 (fun m => gEd ((bFin pf cf L nc (nI 0)).2.1 m) L nc) (S 0) (E 0) el0) (hz : (z = 1 ∧ gIs9 sf E elg el0) ∨ (z = 0 ∧ ¬ gIs9 sf E elg el0)) : gCz pf cf L nc fa fb z := by
  have k2 := hw2
  have k0 := hw0
  have q2 := b9_13 hb2
  have q0 := b9_13 hb0
  rw [hE2, ← hb2.2.1] at k2
  rw [hE0, ← hb0.2.1] at k0
  have key := gSmo_i (el0 := el0) hbf hbG k2 k0
  have iff : gIs9 sf E elg el0 ↔ gSmo pf cf L nc (bFin fp cf FL nc (nI 1)) FL := by
    rw [key]
    unfold gIs9
    rw [hb2.2.1, hb0.2.1, ← hE2, ← hE0]
    constructor
    · rintro ⟨e, q⟩
      refine ⟨e, fun n hn i hi => ?_⟩
      rw [← q2 (elg n) (hw2.1 n hn).1 i hi, ← q0 (el0 n) (hw0.1 n (by omega)).1 i hi]
      exact q n (by omega) i hi
    · rintro ⟨e, q⟩
      refine ⟨e, fun n hn i hi => ?_⟩
      rw [q2 (elg n) (hw2.1 n (by omega)).1 i hi, q0 (el0 n) (hw0.1 n hn).1 i hi]
      exact q n (by omega) i hi
  refine ⟨FL, fp, hfn, hbf, Or.inr ⟨hb2.1, ?_⟩⟩
  rcases hz with ⟨p, q⟩ | ⟨p, q⟩
  · exact Or.inl ⟨p, iff.mp q⟩
  · exact Or.inr ⟨p, fun r => q (iff.mpr r)⟩
/-- found (1) or FULL (-2) -/
def gKr (pf cf : Nat → Int32) (L : Nat → Nat) (nc n : Nat) (iz fo : Int32) : Prop := (iz = (-2) ∧ gCnr pf cf L nc n (-2)) ∨ (iz = 1 ∧ gCnr pf cf L nc n fo)
def gK0 (pf cf : Nat → Int32) (L : Nat → Nat) (nc n : Nat) (iz fo : Int32) (P : Prop) : Prop := (iz = 0 ∧ fo = (-1) ∧ P) ∨ gKr pf cf L nc n iz fo
end RF9
section KRR
variable {pf cf : Nat → Int32} {L : Nat → Nat} {nc n s a b fa fb : Nat} {iz fo z : Int32} {P : Prop}
/-- one more is looked at: size s, the pair (a, b) -/
theorem gKr_y (hs : s ≤ n) (h0 : ∀ t, t < s → gZs pf cf L nc t (-1)) (hb : gZb pf cf L nc s a b) (hq : gQs L nc s a b fa fb) (hz : gCz pf cf L nc fa fb z) (h1 : z = 1) (hf : fo = nI s) (h2 : s ≤ 2) : gKr pf cf L nc n z fo := by
  subst h1; subst hf
  refine Or.inr ⟨rfl, s, hs, h0, gZs_y hb hq hz, Or.inl (fun q => ?_)⟩
  exact nI_pos (n := s) (by omega) (by rw [q]; decide)
theorem gKr_f (hs : s ≤ n) (h0 : ∀ t, t < s → gZs pf cf L nc t (-1)) (hb : gZb pf cf L nc s a b) (hq : gQs L nc s a b fa fb) (hz : gCz pf cf L nc fa fb z) (h1 : z = (-2)) : gKr pf cf L nc n z fo := by
  subst h1
  exact Or.inl ⟨rfl, s, hs, h0, gZs_f hb hq hz, Or.inl (by decide)⟩
theorem gCz_3 (h : gCz pf cf L nc fa fb z) : z = (-2) ∨ z = 1 ∨ z = 0 := by
  obtain ⟨_, _, _, _, ⟨e, _⟩ | ⟨_, ⟨e, _⟩ | ⟨e, _⟩⟩⟩ := h
  · exact Or.inl e
  · exact Or.inr (Or.inl e)
  · exact Or.inr (Or.inr e)
/-- the answer at a pair, with fo as the reference sets it -/
theorem gK0_s (hs : s ≤ n) (h2 : s ≤ 2) (h0 : ∀ t, t < s → gZs pf cf L nc t (-1)) (hb : gZb pf cf L nc s a b) (hq : gQs L nc s a b fa fb) (hz : gCz pf cf L nc fa fb z) (hf : (z = 1 ∧ fo = nI s) ∨ (¬ z = 1 ∧ fo = (-1))) (hP : gZb pf cf L nc s a (b + 1) → P) : gK0 pf cf L nc n z fo P := by
  rcases gCz_3 hz with e | e | e
  · exact Or.inr (gKr_f hs h0 hb hq hz e)
  · exact Or.inr (gKr_y hs h0 hb hq hz e ((hf.resolve_right (fun q => q.1 e)).2) h2)
  · rw [e] at hz
    exact Or.inl ⟨e, (hf.resolve_left (fun q => absurd (q.1.symm.trans e) (by decide))).2, hP (gZb_b hb hq hz)⟩
theorem gK0_m {Q : Prop} (h : gK0 pf cf L nc n iz fo P) (k : iz = 0 → P → Q) : gK0 pf cf L nc n iz fo Q := h.imp (fun q => ⟨q.1, q.2.1, k q.1 q.2.2⟩) id
theorem gK0_P (h : gK0 pf cf L nc n iz fo P) (e : iz = 0) : fo = (-1) ∧ P := by
  rcases h with ⟨_, q⟩ | ⟨q, _⟩ | ⟨q, _⟩
  · exact q
  · exact absurd (q.symm.trans e) (by decide)
  · exact absurd (q.symm.trans e) (by decide)
theorem gK0_e (h : gK0 pf cf L nc n iz fo P) (hP : iz = 0 → P → ∀ t, t ≤ n → gZs pf cf L nc t (-1)) : (iz = (-2) → gCnr pf cf L nc n (-2)) ∧ (¬ iz = (-2) → gCnr pf cf L nc n fo) := by
  rcases h with ⟨e, f, p⟩ | ⟨e, p⟩ | ⟨e, p⟩
  · refine ⟨fun q => absurd (e.symm.trans q) (by decide), fun _ => ?_⟩
    rw [f]
    exact ⟨n, Nat.le_refl _, fun t ht => hP e p t (by omega), hP e p n (Nat.le_refl _), Or.inr rfl⟩
  · exact ⟨fun _ => p, fun q => absurd e q⟩
  · exact ⟨fun q => absurd (e.symm.trans q) (by decide), fun _ => p⟩
end KRR
theorem gPn_e {L Mn : Nat → Nat} : ∀ n, (∀ k, k < n → Mn k = L k) → gPn Mn n = gPn L n
  | 0, _ => rfl
  | n + 1, h => by
    show gPn Mn n + (Mn n - 1) = gPn L n + (L n - 1)
    rw [gPn_e n (fun k hk => h k (by omega)), h n (by omega)]
theorem gPo_e {L Mn : Nat → Nat} {nc a c : Nat} (h : ∀ k, k < nc → Mn k = L k) (hp : gPo Mn nc a c) : gPo L nc a c := by
  obtain ⟨k, i, h1, h2, h3, h4, h5⟩ := hp
  exact ⟨k, i, h1, h2, by rw [← h k h1]; exact h3, h4, by rw [h5, gPn_e k (fun j hj => h j (by omega))]⟩
