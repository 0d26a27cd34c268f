
section RC9
variable {f pf kd cl sf w : Nat → Int32} {L nx C Mn rz cs st : Nat → Nat} {nc n k r x i : Nat} {m8 z : Int32}
/-- the reference's row n of slot 2 and its PROGRAM against a STATE and the PROGRAM -/
def gQ2 (f pf kd cl sf : Nat → Int32) (L nx Mn C : Nat → Nat) (nc n : Nat) : Prop := C 0 = nc ∧ nc ≤ 3 ∧ (∀ k, k < 3 → gNx (f (13 + k)) = nx k) ∧ (∀ k, k < 3 → sf ((((6000 + n) * 58) + 55) + k) = nI (gSto (f (13 + k)))) ∧ ∀ k, k < nc → Mn k = L k ∧ L k ≤ 8 ∧ ∀ i, i < L k → kd (12 * k + i) = pf ((((k * 8) + i) * 8) + 0) ∧ cl (12 * k + i) = pf ((((k * 8) + i) * 8) + 1)
theorem gQ2_l (h : gQ2 f pf kd cl sf L nx Mn C nc n) (hk : k < nc) (hn : nx k < Mn k) (h0 : kd (12 * k + nx k) = 0) (h1 : cl (12 * k + nx k) = nI x) : gLdx f pf L k x := by
  obtain ⟨_, h3, a, _, b⟩ := h
  obtain ⟨b1, _, b2⟩ := b k hk
  have e := a k (by omega)
  obtain ⟨c1, c2⟩ := b2 (nx k) (by omega)
  unfold gLdx gNi
  rw [e]
  exact ⟨by omega, c1.symm.trans h0, c2.symm.trans h1⟩
theorem gQ2_ln (h : gQ2 f pf kd cl sf L nx Mn C nc n) (hr : ¬ (k < nc ∧ nx k < Mn k ∧ kd (12 * k + nx k) = 0)) {w : Nat} : ¬ gRq f pf L nc k w x := by
  intro q
  obtain ⟨_, h3, a, _, b⟩ := h
  obtain ⟨q1, _, _, _, ⟨l1, l2, _⟩, _⟩ := q
  obtain ⟨b1, _, b2⟩ := b k q1
  unfold gNi at l2
  rw [a k (by omega)] at l1 l2
  obtain ⟨c1, c2⟩ := b2 (nx k) l1
  exact hr ⟨q1, by omega, c1.trans l2⟩
theorem gQ2_w (h : gQ2 f pf kd cl sf L nx Mn C nc n) (hk : k < nc) (hn : nx k < Mn k) (h1 : cl (12 * k + nx k) = z) (h0 : kd (12 * k + nx k) = 1 ∨ kd (12 * k + nx k) = 5 ∨ kd (12 * k + nx k) = 6 ∨ kd (12 * k + nx k) = 7) : gWri f pf L k z := by
  obtain ⟨_, h3, a, _, b⟩ := h
  obtain ⟨b1, _, b2⟩ := b k hk
  have e := a k (by omega)
  obtain ⟨c1, c2⟩ := b2 (nx k) (by omega)
  unfold gWri gNi
  rw [e, ← c1, ← c2]
  exact ⟨by omega, h1, h0⟩
theorem gQ2_wn (h : gQ2 f pf kd cl sf L nx Mn C nc n) (hk : k < nc) (hr : ¬ (nx k < Mn k ∧ cl (12 * k + nx k) = z ∧ (kd (12 * k + nx k) = 1 ∨ kd (12 * k + nx k) = 5 ∨ kd (12 * k + nx k) = 6 ∨ kd (12 * k + nx k) = 7))) : ¬ gWri f pf L k z := by
  intro q
  obtain ⟨_, h3, a, _, b⟩ := h
  obtain ⟨b1, _, b2⟩ := b k hk
  unfold gWri gNi at q
  rw [a k (by omega)] at q
  obtain ⟨q1, q2, q3⟩ := q
  obtain ⟨c1, c2⟩ := b2 (nx k) q1
  rw [← c1] at q3
  rw [← c2] at q2
  exact hr ⟨by omega, q2, q3⟩
theorem gQ2_o (h : gQ2 f pf kd cl sf L nx Mn C nc n) (hk : k < 3) : sf ((((6000 + n) * 58) + 55) + k) = nI (gSto (f (13 + k))) := h.2.2.2.1 k hk
theorem gK57 {x : Int32} (h5 : ¬ x < 5) (h7 : ¬ 7 < x) : x = 5 ∨ x = 6 ∨ x = 7 := by
  obtain ⟨j, hj, e⟩ := nI_of (x := x) (fun q => h5 (Int32.lt_trans q (by decide)))
  subst e
  have a : ¬ j < 5 := fun q => h5 ((nI_ltI (a := j) (b := 5) hj (by decide)).mpr q)
  have b : ¬ 7 < j := fun q => h7 ((nI_ltI (a := 7) (b := j) (by decide) hj).mpr q)
  rcases (show j = 5 ∨ j = 6 ∨ j = 7 by omega) with e | e | e <;> subst e
  · exact Or.inl rfl
  · exact Or.inr (Or.inl rfl)
  · exact Or.inr (Or.inr rfl)
theorem gNm {z : Int32} {a : Nat} {P R : Prop} (h : z = (-1) ∨ ∃ q, q < 36 ∧ q = a ∧ P ∧ R ∧ z = nI q) (hz : z < 0) : z = (-1) := by
  rcases h with h | ⟨q, h1, _, _, _, e⟩
  · exact h
  · rw [e] at hz
    exact absurd hz (nI_pos (by omega))
theorem gK5n {x : Int32} (h : x < 5) : ¬ (x = 5 ∨ x = 6 ∨ x = 7) := by
  rintro (e | e | e) <;> subst e <;> exact absurd h (by decide)
theorem gK7n {x : Int32} (h : 7 < x) : ¬ (x = 5 ∨ x = 6 ∨ x = 7) := by
  rintro (e | e | e) <;> subst e <;> exact absurd h (by decide)
end RC9
