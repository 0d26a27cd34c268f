
/-! the class's Findings -/
def fSp (pf cf : Nat → Int32) (L : Nat → Nat) (nc t : Nat) (fl : Int32) (st s1 : Nat) (rec : Nat → Int32) : Prop := (fl = 1 ∧ (bFin pf cf L nc (nI t)).2.2.2 = false ∧ s1 = 0) ∨ (fl = 0 ∧ (bFin pf cf L nc (nI t)).2.2.2 = true ∧ st = (bFin pf cf L nc (nI t)).1 ∧ s1 = bEc (fun m => gEd ((bFin pf cf L nc (nI t)).2.1 m) L nc) (bFin pf cf L nc (nI t)).1 ∧ ∃ el : Nat → Nat, bEw (bFin pf cf L nc (nI t)).2.1 (fun m => gEd ((bFin pf cf L nc (nI t)).2.1 m) L nc) (bFin pf cf L nc (nI t)).1 s1 el ∧ ∀ n, n < s1 → gRec rec n ((bFin pf cf L nc (nI t)).2.1 (el n)) (bFin pf cf L nc (nI t)).2.2.1 (el n))
section FSS
variable {pf cf rf9 cm9 ef9 rec : Nat → Int32} {L el : Nat → Nat} {nc t wd9 sz9 es9 s9 st s1 : Nat} {z fl m8 : Int32}
theorem fEl_x (hm : m8 = 0 ∨ m8 = 1 ∨ m8 = 2) (hG : bG pf L nc) (h6 : ∀ k, k < 3 → L k ≤ 6) (h37 : (z = 0 ∧ (bFin pf cf L nc m8).2.2.2 = false) ∨ (z = 1 ∧ bCl (bFin pf cf L nc m8) wd9 sz9 rf9 cm9 ∧ wd9 = gWd m8 nc ∧ es9 = bEc (fun m => gEd ((bFin pf cf L nc m8).2.1 m) L nc) sz9 ∧ bEx (bFin pf cf L nc m8).2.1 (fun m => gEd ((bFin pf cf L nc m8).2.1 m) L nc) sz9 es9 ef9)) : ∃ el : Nat → Nat, ¬ z = 0 → bEw (bFin pf cf L nc m8).2.1 (fun m => gEd ((bFin pf cf L nc m8).2.1 m) L nc) sz9 es9 el ∧ ∀ i, i < es9 → (ef9 i = nI (el i) ∧ el i < sz9) ∧ gPx cm9 (el i) := by
  rcases h37 with ⟨a, _⟩ | ⟨_, ⟨_, b2, _, b4⟩, _, _, el, d1, d2⟩
  · exact ⟨fun _ => 0, fun h => absurd a h⟩
  · refine ⟨el, fun _ => ⟨d2, fun i hi => ⟨⟨d1 i hi, (d2.1 i hi).1⟩, ?_⟩⟩⟩
    have h := (d2.1 i hi).1
    obtain ⟨l, ps, k1, k2⟩ := bFin_P (cf := cf) hm hG h6 (show el i < (bFin pf cf L nc m8).1 by rw [b2]; exact h)
    exact ⟨l, ps, gPth_f _ _ (fun m hm => b4 m (by omega)) k1, k2⟩
theorem fSp_x (em : m8 = nI t) (h37 : (z = 0 ∧ (bFin pf cf L nc m8).2.2.2 = false) ∨ (z = 1 ∧ bCl (bFin pf cf L nc m8) wd9 sz9 rf9 cm9 ∧ wd9 = gWd m8 nc ∧ es9 = bEc (fun m => gEd ((bFin pf cf L nc m8).2.1 m) L nc) sz9 ∧ bEx (bFin pf cf L nc m8).2.1 (fun m => gEd ((bFin pf cf L nc m8).2.1 m) L nc) sz9 es9 ef9)) (h40 : (fl = 1 ∧ z = 0 ∧ s9 = 0) ∨ (fl = 0 ∧ ¬ z = 0 ∧ s9 = es9 ∧ gRcs rec rf9 cm9 el wd9 es9)) (hel : ¬ z = 0 → bEw (bFin pf cf L nc m8).2.1 (fun m => gEd ((bFin pf cf L nc m8).2.1 m) L nc) sz9 es9 el ∧ ∀ i, i < es9 → (ef9 i = nI (el i) ∧ el i < sz9) ∧ gPx cm9 (el i)) : fSp pf cf L nc t fl sz9 s9 rec := by
  subst em
  rcases h37 with ⟨a, b⟩ | ⟨a, b, w, c, _⟩ <;> rcases h40 with ⟨d, e, g⟩ | ⟨d, e, g, k⟩
  · exact Or.inl ⟨d, b, g⟩
  · exact absurd a e
  · exact absurd (a.symm.trans e) (by decide)
  · obtain ⟨b1, b2, b3, b4⟩ := b
    obtain ⟨f1, f2⟩ := hel e
    have hw : 16 ≤ wd9 := by
      rw [w]
      unfold gWd
      by_cases q : nI t = 1
      · rw [if_pos q]; omega
      · rw [if_neg q]; exact Nat.le_refl _
    refine Or.inr ⟨d, b1, b2.symm, by rw [g, c, b2], el, by rw [b2, g]; exact f1, fun n hn => ?_⟩
    have hn : n < es9 := by omega
    obtain ⟨u1, l, ps, u2, u3, u4⟩ := k n hn
    have hlt := (f2 n hn).1.2
    exact ⟨fun i hi => (u1 i hi).trans (b3 (el n) hlt i (by omega)), l, ps, gPth_f _ _ (fun m hm => (b4 m (by omega)).symm) u2, u3, u4⟩
theorem fSp_y (h : fSp pf cf L nc t fl st s1 rec) (h0 : fl = 0) : bOc pf cf L nc t = nI s1 := by
  rcases h with ⟨a, _⟩ | ⟨_, b, _, c, _⟩
  · exact absurd (a.symm.trans h0) (by decide)
  · unfold bOc
    rw [if_pos b, c]
theorem fSp_n (h : fSp pf cf L nc t fl st s1 rec) (h0 : ¬ fl = 0) : bOc pf cf L nc t = (-2) := by
  rcases h with ⟨_, b, _⟩ | ⟨a, _⟩
  · unfold bOc
    rw [if_neg (by rw [b]; decide)]
  · exact absurd a h0
theorem fSp_1 (h : fSp pf cf L nc t fl st s1 rec) (h0 : fl = 0) : (bFin pf cf L nc (nI t)).2.2.2 = true ∧ st = (bFin pf cf L nc (nI t)).1 ∧ s1 = bEc (fun m => gEd ((bFin pf cf L nc (nI t)).2.1 m) L nc) (bFin pf cf L nc (nI t)).1 ∧ ∃ el : Nat → Nat, bEw (bFin pf cf L nc (nI t)).2.1 (fun m => gEd ((bFin pf cf L nc (nI t)).2.1 m) L nc) (bFin pf cf L nc (nI t)).1 s1 el ∧ ∀ n, n < s1 → gRec rec n ((bFin pf cf L nc (nI t)).2.1 (el n)) (bFin pf cf L nc (nI t)).2.2.1 (el n) := by
  rcases h with ⟨a, _⟩ | ⟨_, b⟩
  · exact absurd (a.symm.trans h0) (by decide)
  · exact b
theorem fSp_0 (h : fSp pf cf L nc t fl st s1 rec) (h0 : ¬ fl = 0) : (bFin pf cf L nc (nI t)).2.2.2 = false := by
  rcases h with ⟨_, b, _⟩ | ⟨a, _⟩
  · exact b
  · exact absurd a h0
end FSS
/-! OUTCOMES and SCHEDULES as they are asked for -/
def rHs (pf cf : Nat → Int32) (L : Nat → Nat) (nc : Nat) (ld x y : Int32) (a b : Nat) : Prop := a < 2 ∧ x = nI a ∧ ¬ ld = 0 ∧ (bFin pf cf L nc (nI a)).2.2.2 = true ∧ b < bEc (fun m => gEd ((bFin pf cf L nc (nI a)).2.1 m) L nc) (bFin pf cf L nc (nI a)).1 ∧ y = nI b
def bEl (pf cf : Nat → Int32) (L : Nat → Nat) (nc a : Nat) (el : Nat → Nat) : Prop := bEw (bFin pf cf L nc (nI a)).2.1 (fun m => gEd ((bFin pf cf L nc (nI a)).2.1 m) L nc) (bFin pf cf L nc (nI a)).1 (bEc (fun m => gEd ((bFin pf cf L nc (nI a)).2.1 m) L nc) (bFin pf cf L nc (nI a)).1) el
def rOc (pf cf : Nat → Int32) (L : Nat → Nat) (nc : Nat) (ld x y u z : Int32) : Prop := (∃ (a b c : Nat) (el : Nat → Nat), rHs pf cf L nc ld x y a b ∧ c < 13 ∧ u = nI c ∧ bEl pf cf L nc a el ∧ z = (bFin pf cf L nc (nI a)).2.1 (el b) c) ∨ (z = 0 ∧ ∀ a b c, rHs pf cf L nc ld x y a b → c < 13 → ¬ u = nI c)
def rSc (pf cf : Nat → Int32) (L : Nat → Nat) (nc : Nat) (ld x y u z : Int32) : Prop := (∃ (a b l : Nat) (el ps : Nat → Nat), rHs pf cf L nc ld x y a b ∧ bEl pf cf L nc a el ∧ gPth (bFin pf cf L nc (nI a)).2.2.1 ps l (el b) ∧ l ≤ 3000 ∧ gAn l ps u z) ∨ (z = (-1) ∧ ∀ a b, ¬ rHs pf cf L nc ld x y a b)
section OSS
variable {pf cf : Nat → Int32} {L el el9 : Nat → Nat} {nc a b a9 b9 i : Nat} {ld x y u z z9 m8 : Int32}
theorem bRun_le : ∀ i, (bRun pf cf L nc m8 i).1 ≤ 3000
  | 0 => by
    show 1 ≤ 3000
    decide
  | i + 1 => by
    have ih := bRun_le i
    by_cases c : (bRun pf cf L nc m8 i).2.2.2 = true ∧ i / 6 < (bRun pf cf L nc m8 i).1
    · rw [bRun_s c]
      generalize bRun pf cf L nc m8 i = T at ih
      by_cases q : gCE (T.2.1 (i / 6)) pf L nc (nI (i % 6)) ∧ ¬ bSeen (gWd m8 nc) T.1 T.2.1 (gStep pf m8 (T.2.1 (i / 6)) (nI (i % 6)))
      · by_cases p : T.1 < 3000
        · rw [bCell_a q.1 q.2 p]
          exact p
        · rw [bCell_f q.1 q.2 p]
          exact ih
      · rw [bCell_k q]
        exact ih
    · have e := bRun_k c 1
      rw [e]
      exact ih
theorem bFin_le : (bFin pf cf L nc m8).1 ≤ 3000 := by
  rw [bFin_d]
  exact bRun_le 18000
theorem bEc_le {E : Nat → Prop} : ∀ n, bEc E n ≤ n
  | 0 => Nat.le_refl _
  | n + 1 => by
    have ih := bEc_le (E := E) n
    by_cases c : E n
    · rw [bEc_y c]; omega
    · rw [bEc_n c]; omega
theorem bMd {a : Nat} (h : a < 2) : nI a = 0 ∨ nI a = 1 := by
  rcases (show a = 0 ∨ a = 1 by omega) with e | e <;> subst e
  · exact Or.inl rfl
  · exact Or.inr rfl
theorem bEl_u (ha : a < 2) (hG : bG pf L nc) (h : bEl pf cf L nc a el) (h9 : bEl pf cf L nc a el9) : ∀ i, i < bEc (fun m => gEd ((bFin pf cf L nc (nI a)).2.1 m) L nc) (bFin pf cf L nc (nI a)).1 → el i = el9 i := (bEn_u (bEw_e h (bFin_O (bMd ha) hG)) (bEw_e h9 (bFin_O (bMd ha) hG))).2
end OSS
section OSC
variable {pf cf rec : Nat → Int32} {L : Nat → Nat} {nc t st s1 a b : Nat} {fl ld x y z : Int32}
/-- a full one has no OUTCOME -/
theorem fSp_f (h : fSp pf cf L nc t fl st s1 rec) (h0 : a < s1) : fl = 0 := by
  rcases h with ⟨_, _, c⟩ | ⟨c, _⟩
  · omega
  · exact c
theorem fHs_n (ht : x = nI t) (h : fSp pf cf L nc t fl st s1 rec) (hn : ∀ j, j < s1 → ¬ y = nI j) (h9 : rHs pf cf L nc ld x y a b) (h2 : t < 2) : False := by
  obtain ⟨h1, h2, _, h4, h5, h6⟩ := h9
  have e := (nI_eq (a := t) (b := a) (by omega) (by omega)).mp (ht.symm.trans h2)
  subst e
  rcases h with ⟨_, k, _⟩ | ⟨_, _, _, k, _⟩
  · exact absurd (h4.symm.trans k) (by decide)
  · exact hn b (by rw [k]; exact h5) h6
end OSC
/-- isOutcome of the reference -/
def rIo (pf cf : Nat → Int32) (L : Nat → Nat) (nc : Nat) (ld x y z : Int32) (ff : Nat → Int32) (S E : Nat → Nat) (sf fr bf en : Nat → Int32) : Prop := (z = 1 ∧ ∃ a b, rHs pf cf L nc ld x y a b ∧ rTf pf cf L nc a ff S E sf fr bf en ∧ ff a = 0) ∨ (z = 0 ∧ ∀ a b, ¬ rHs pf cf L nc ld x y a b)
section ISS
variable {pf cf ff sf fr bf en : Nat → Int32} {L S E : Nat → Nat} {nc t a b j : Nat} {ld x y z : Int32}
theorem rHs_b (h : rHs pf cf L nc ld x y a b) : b < 3000 := by
  have k := bFin_le (pf := pf) (cf := cf) (L := L) (nc := nc) (m8 := nI a)
  have k2 := bEc_le (E := fun m => gEd ((bFin pf cf L nc (nI a)).2.1 m) L nc) (bFin pf cf L nc (nI a)).1
  have := h.2.2.2.2.1
  omega
theorem rHs_a (ht : t < 2) (h : rHs pf cf L nc ld (nI t) y a b) : t = a := (nI_eq (by omega) (by have := h.1; omega)).mp h.2.1
theorem rIo_x (hx : x < 0) : ¬ rHs pf cf L nc ld x y a b := fun h => nI_pos (n := a) (by have := h.1; omega) (by rw [← h.2.1]; exact hx)
theorem rIo_p (hx : ¬ x ≤ 1) : ¬ rHs pf cf L nc ld x y a b := fun h => hx (by rw [h.2.1]; exact (nI_leI (a := a) (b := 1) (by have := h.1; omega) (by decide)).mpr (by have := h.1; omega))
theorem rIo_n (hy : y < 0) : ¬ rHs pf cf L nc ld x y a b := fun h => nI_pos (n := b) (by have := rHs_b h; omega) (by rw [← h.2.2.2.2.2]; exact hy)
theorem rIo_f (ht : t < 2) (hT : rTf pf cf L nc t ff S E sf fr bf en) (h0 : ¬ ff t = 0) : ¬ rHs pf cf L nc ld (nI t) y a b := by
  intro h
  have e := rHs_a ht h
  subst e
  rcases hT with ⟨_, k⟩ | ⟨k, _⟩
  · exact absurd (h.2.2.2.1.symm.trans k) (by decide)
  · exact h0 k
theorem rIo_E (hT : rTf pf cf L nc t ff S E sf fr bf en) (h0 : ff t = 0) : (bFin pf cf L nc (nI t)).2.2.2 = true ∧ E t = bEc (fun m => gEd ((bFin pf cf L nc (nI t)).2.1 m) L nc) (bFin pf cf L nc (nI t)).1 := by
  rcases hT with ⟨k, _⟩ | ⟨_, k, e, _⟩
  · exact absurd (k.symm.trans h0) (by decide)
  · exact ⟨k.1, by rw [e, k.2.1]⟩
theorem rIo_g (ht : t < 2) (hT : rTf pf cf L nc t ff S E sf fr bf en) (h0 : ff t = 0) (hE : E t ≤ 3000) (hy : nI (E t) ≤ y) : ¬ rHs pf cf L nc ld (nI t) y a b := by
  intro h
  have e := rHs_a ht h
  subst e
  have k := (rIo_E hT h0).2
  have q := h.2.2.2.2.1
  have q3 := rHs_b h
  rw [h.2.2.2.2.2] at hy
  have := (nI_leI (a := E t) (b := b) (by omega) (by omega)).mp hy
  omega
theorem rIo_y (ht : t < 2) (hl : ¬ ld = 0) (hT : rTf pf cf L nc t ff S E sf fr bf en) (h0 : ff t = 0) (hj : j < E t) : rHs pf cf L nc ld (nI t) (nI j) t j := ⟨ht, rfl, hl, (rIo_E hT h0).1, by rw [← (rIo_E hT h0).2]; exact hj, rfl⟩
/-- what isOutcome's yes gives -/
theorem rIo_o (ht : t < 2) (hj : j < 3000) (h : rIo pf cf L nc ld (nI t) (nI j) z ff S E sf fr bf en) (hz : ¬ z = 0) : rHs pf cf L nc ld (nI t) (nI j) t j ∧ b9 (bFin pf cf L nc (nI t)) (nI t) nc t (S t) sf fr bf ∧ ∃ el, (∀ i, i < E t → en (3000 * t + i) = nI (el i)) ∧ bEl pf cf L nc t el ∧ ∀ i, i < E t → el i < S t := by
  obtain ⟨a, b, h1, h2, h3⟩ := (h.resolve_right (fun q => hz q.1)).2
  have e := rHs_a ht h1
  subst e
  have e2 := (nI_eq (a := j) (b := b) (by omega) (by have := rHs_b h1; omega)).mp h1.2.2.2.2.2
  subst e2
  rcases h2 with ⟨k, _⟩ | ⟨_, k, q, el, w1, w2⟩
  · exact absurd (k.symm.trans h3) (by decide)
  · refine ⟨h1, k, el, w1, ?_, fun i hi => (w2.1 i hi).1⟩
    unfold bEl
    rw [k.2.1, ← q]
    exact w2
theorem rOc_n (h : rIo pf cf L nc ld x y z ff S E sf fr bf en) (hz : z = 0) : ∀ a b, ¬ rHs pf cf L nc ld x y a b := (h.resolve_left (fun q => absurd (q.1.symm.trans hz) (by decide))).2
end ISS
