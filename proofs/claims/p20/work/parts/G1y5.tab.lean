
/-! what the reference keeps of its searches -/
section FRA
variable {S S9 : Nat → Nat} {sf fr bf nf hf sf9 fr9 bf9 nf9 hf9 f0 g0 nw : Nat → Int32} {x y z : Int32} {s9 : Nat}
def gFq (g f : Nat → Int32) (s : Nat) : Prop := ∀ j, (j < 174000 * s ∨ 174000 * s + 174000 ≤ j) → g j = f j
theorem gC9_fq (h : gFq sf f0 s9) (hk : gC9 z S S9 sf sf9 fr fr9 bf bf9 nf nf9 hf hf9 nw s9 x y) : gFq sf9 f0 s9 := by
  rcases hk with ⟨_, _, _, e, _⟩ | ⟨_, ⟨_, _, _, e, _⟩ | ⟨_, h1, _, h2, _⟩⟩
  · rw [e]; exact h
  · rw [e]; exact h
  · exact fun j hj => (h2.2 j (by omega)).trans (h j hj)
theorem gC9_fb (h : gFm bf g0 (3000 * s9) 3000) (hk : gC9 z S S9 sf sf9 fr fr9 bf bf9 nf nf9 hf hf9 nw s9 x y) : gFm bf9 g0 (3000 * s9) 3000 := by
  rcases hk with ⟨_, _, _, _, _, e, _⟩ | ⟨_, ⟨_, _, _, _, _, e, _⟩ | ⟨_, h1, _, _, _, e, _⟩⟩
  · rw [e]; exact h
  · rw [e]; exact h
  · rw [e]; exact gFm_u h (by omega) (by omega)
end FRA
def rTf (pf cf : Nat → Int32) (L : Nat → Nat) (nc t : Nat) (ff : Nat → Int32) (S E : Nat → Nat) (sf fr bf en : Nat → Int32) : Prop := (ff t = 1 ∧ (bFin pf cf L nc (nI t)).2.2.2 = false) ∨ (ff t = 0 ∧ b9 (bFin pf cf L nc (nI t)) (nI t) nc t (S t) sf fr bf ∧ E t = bEc (fun m => gEd ((bFin pf cf L nc (nI t)).2.1 m) L nc) (S t) ∧ bEx (bFin pf cf L nc (nI t)).2.1 (fun m => gEd ((bFin pf cf L nc (nI t)).2.1 m) L nc) (S t) (E t) (fun i9 => en (3000 * t + i9)))
def rTq (pf cf : Nat → Int32) (L : Nat → Nat) (nc t : Nat) (df ff : Nat → Int32) (S E : Nat → Nat) (sf fr bf en : Nat → Int32) : Prop := df t = 0 ∨ rTf pf cf L nc t ff S E sf fr bf en
/-- nothing but slot s is changed -/
def gFx (s : Nat) (S S9 E E9 : Nat → Nat) (sf sf9 fr fr9 bf bf9 ff ff9 en en9 : Nat → Int32) : Prop := (∀ t, t ≠ s → S9 t = S t ∧ E9 t = E t ∧ ff9 t = ff t) ∧ gFq sf9 sf s ∧ gFm fr9 fr (3000 * s) 3000 ∧ gFm bf9 bf (3000 * s) 3000 ∧ gFm en9 en (3000 * s) 3000
theorem bEx_f {S : Nat → Nat → Int32} {E : Nat → Prop} {n es : Nat} {ef ef9 : Nat → Int32} (h : bEx S E n es ef) (e : ∀ i, i < es → ef9 i = ef i) : bEx S E n es ef9 := by
  obtain ⟨el, a, b⟩ := h
  exact ⟨el, fun i hi => (e i hi).trans (a i hi), b⟩
theorem rTf_fx {pf cf : Nat → Int32} {L : Nat → Nat} {nc t s : Nat} {S S9 E E9 : Nat → Nat} {sf sf9 fr fr9 bf bf9 ff ff9 en en9 : Nat → Int32} (h : rTf pf cf L nc t ff S E sf fr bf en) (hN : S t ≤ 3000) (hE : E t ≤ 3000) (ht : t ≠ s) (hx : gFx s S S9 E E9 sf sf9 fr fr9 bf bf9 ff ff9 en en9) : rTf pf cf L nc t ff9 S9 E9 sf9 fr9 bf9 en9 := by
  obtain ⟨h1, h2, h3, h4, h5⟩ := hx
  obtain ⟨e1, e2, e3⟩ := h1 t ht
  unfold rTf
  rw [e1, e2, e3]
  rcases h with h | ⟨a, ⟨b1, b2, b3, b4⟩, c, d⟩
  · exact Or.inl h
  · refine Or.inr ⟨a, ⟨b1, b2, fun n hn => rR_ext (b3 n hn) (fun j hj => h2 _ (by omega)), fun n hn => ?_⟩, c, bEx_f d (fun i hi => h5 _ (by omega))⟩
    rw [h3 _ (by omega), h4 _ (by omega)]
    exact b4 n hn
noncomputable def bOc (pf cf : Nat → Int32) (L : Nat → Nat) (nc t : Nat) : Int32 := @ite Int32 ((bFin pf cf L nc (nI t)).2.2.2 = true) (Classical.propDecidable _) (nI (bEc (fun m => gEd ((bFin pf cf L nc (nI t)).2.1 m) L nc) (bFin pf cf L nc (nI t)).1)) (-2)
theorem bOc_y {pf cf : Nat → Int32} {L : Nat → Nat} {nc t : Nat} {ff : Nat → Int32} {S E : Nat → Nat} {sf fr bf en : Nat → Int32} (h : rTf pf cf L nc t ff S E sf fr bf en) (h0 : ff t = 0) : bOc pf cf L nc t = nI (E t) := by
  rcases h with ⟨a, _⟩ | ⟨_, b, c, _⟩
  · exact absurd (a.symm.trans h0) (by decide)
  · unfold bOc
    rw [if_pos b.1, c, b.2.1]
theorem bOc_n {pf cf : Nat → Int32} {L : Nat → Nat} {nc t : Nat} {ff : Nat → Int32} {S E : Nat → Nat} {sf fr bf en : Nat → Int32} (h : rTf pf cf L nc t ff S E sf fr bf en) (h0 : ¬ ff t = 0) : bOc pf cf L nc t = (-2) := by
  rcases h with ⟨_, b⟩ | ⟨a, _⟩
  · unfold bOc
    rw [if_neg (by rw [b]; decide)]
  · exact absurd a h0
theorem rTf_al {pf cf : Nat → Int32} {L : Nat → Nat} {nc mo : Nat} {ff ff9 sf sf9 fr fr9 bf bf9 en en9 : Nat → Int32} {S S9 E E9 : Nat → Nat} (h0 : rTf pf cf L nc mo ff9 S9 E9 sf9 fr9 bf9 en9) (hx : gFx mo S S9 E E9 sf sf9 fr fr9 bf bf9 ff ff9 en en9) : ∀ t, t < 2 → gT9 t S E fr en → rTf pf cf L nc t ff S E sf fr bf en → rTf pf cf L nc t ff9 S9 E9 sf9 fr9 bf9 en9 := by
  intro t ht h q
  by_cases e : t = mo
  · subst e
    exact h0
  · exact rTf_fx q h.1 (Nat.le_trans h.2.1 h.1) e hx
theorem rTf_0 {pf cf : Nat → Int32} {L : Nat → Nat} {nc t : Nat} {ff sf fr bf en : Nat → Int32} {S E : Nat → Nat} (h : rTf pf cf L nc t ff S E sf fr bf en) (h0 : ¬ ff t = 0) : (bFin pf cf L nc (nI t)).2.2.2 = false := by
  rcases h with ⟨_, b⟩ | ⟨a, _⟩
  · exact b
  · exact absurd a h0
theorem rTf_el {pf cf : Nat → Int32} {L : Nat → Nat} {nc t : Nat} {ff sf fr bf en : Nat → Int32} {S E : Nat → Nat} (h : rTf pf cf L nc t ff S E sf fr bf en) (hw : (bFin pf cf L nc (nI t)).2.2.2 = true) : b9 (bFin pf cf L nc (nI t)) (nI t) nc t (S t) sf fr bf ∧ E t = bEc (fun m => gEd ((bFin pf cf L nc (nI t)).2.1 m) L nc) (S t) ∧ ∃ el : Nat → Nat, (∀ i, i < E t → en (3000 * t + i) = nI (el i)) ∧ bEw (bFin pf cf L nc (nI t)).2.1 (fun m => gEd ((bFin pf cf L nc (nI t)).2.1 m) L nc) (S t) (E t) el := by
  rcases h with ⟨_, b⟩ | ⟨_, b, c, el, d, e⟩
  · exact absurd (hw.symm.trans b) (by decide)
  · exact ⟨b, c, el, d, e⟩
