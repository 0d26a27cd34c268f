
/-! count -/
def gS1 (L : Nat → Nat) : Nat → Nat
  | 0 => 0
  | k + 1 => gS1 L k + L k
def gP1 (L : Nat → Nat) : Nat → Nat
  | 0 => 0
  | k + 1 => gP1 L k + (L k - 1)
noncomputable def bSs (pf cf : Nat → Int32) (L : Nat → Nat) (nc t : Nat) : Int32 := @ite Int32 ((bFin pf cf L nc (nI t)).2.2.2 = true) (Classical.propDecidable _) (nI (bFin pf cf L nc (nI t)).1) (-1)
noncomputable def bSe (pf cf : Nat → Int32) (L : Nat → Nat) (nc t : Nat) : Int32 := @ite Int32 ((bFin pf cf L nc (nI t)).2.2.2 = true) (Classical.propDecidable _) (nI (bEc (fun m => gEd ((bFin pf cf L nc (nI t)).2.1 m) L nc) (bFin pf cf L nc (nI t)).1)) (-1)
noncomputable def bYs (P : Prop) (a b : Int32) : Int32 := @ite Int32 P (Classical.propDecidable _) a b
theorem bYs_y {P : Prop} {a b : Int32} (h : P) : bYs P a b = a := if_pos h
theorem bYs_n {P : Prop} {a b : Int32} (h : ¬ P) : bYs P a b = b := if_neg h
/-- what is counted: c0 CORES, c1 INS, of a machine whether it stands, its steps, whether it has ended, c8 places -/
noncomputable def bCv (pf cf : Nat → Int32) (L : Nat → Nat) (nc : Nat) (c0 c1 : Nat) (P : Prop) (vk : Nat) (Q : Prop) (c8 : Nat) : Nat → Int32
  | 0 => nI c0
  | 1 => nI c1
  | 2 => bSs pf cf L nc 1
  | 3 => bSs pf cf L nc 0
  | 4 => bSe pf cf L nc 1
  | 5 => bSe pf cf L nc 0
  | 6 => bYs P (nI vk) 0
  | 7 => bYs (P ∧ Q) 1 0
  | _ => nI c8
def rCq (V : Nat → Int32) (ld tz x z : Int32) : Prop := (∃ j, j < 9 ∧ x = nI j ∧ ((ld = 0 ∧ z = 0) ∨ (¬ ld = 0 ∧ z = V j))) ∨ (x = nI 9 ∧ z = tz) ∨ (z = (-1) ∧ ∀ j, j ≤ 9 → ¬ x = nI j)
section CTT
variable {pf cf rec : Nat → Int32} {L : Nat → Nat} {nc t st s1 : Nat} {fl z z9 ld tz x : Int32} {V V9 : Nat → Int32}
theorem bSs_f (h : fSp pf cf L nc t fl st s1 rec) (hz : (fl = 0 ∧ z = nI st) ∨ (¬ fl = 0 ∧ z = (-1))) : z = bSs pf cf L nc t := by
  unfold bSs
  rcases hz with ⟨a, b⟩ | ⟨a, b⟩
  · obtain ⟨c, d, _⟩ := fSp_1 h a
    rw [if_pos c, b, d]
  · rw [if_neg (by rw [fSp_0 h a]; decide), b]
theorem bSe_f (h : fSp pf cf L nc t fl st s1 rec) (hz : (fl = 0 ∧ z = nI s1) ∨ (¬ fl = 0 ∧ z = (-1))) : z = bSe pf cf L nc t := by
  unfold bSe
  rcases hz with ⟨a, b⟩ | ⟨a, b⟩
  · obtain ⟨c, _, d, _⟩ := fSp_1 h a
    rw [if_pos c, b, d]
  · rw [if_neg (by rw [fSp_0 h a]; decide), b]
theorem bSs_9 {ff sf fr bf en : Nat → Int32} {S E : Nat → Nat} (h : rTf pf cf L nc t ff S E sf fr bf en) (hz : (ff t = 0 ∧ z = nI (S t)) ∨ (¬ ff t = 0 ∧ z = (-1))) : z = bSs pf cf L nc t := by
  unfold bSs
  rcases hz with ⟨a, b⟩ | ⟨a, b⟩
  · rcases h with ⟨k, _⟩ | ⟨_, k, _⟩
    · exact absurd (k.symm.trans a) (by decide)
    · rw [if_pos k.1, b, k.2.1]
  · rw [if_neg (by rw [rTf_0 h a]; decide), b]
theorem bSe_9 {ff sf fr bf en : Nat → Int32} {S E : Nat → Nat} (h : rTf pf cf L nc t ff S E sf fr bf en) (hz : (ff t = 0 ∧ z = nI (E t)) ∨ (¬ ff t = 0 ∧ z = (-1))) : z = bSe pf cf L nc t := by
  unfold bSe
  rcases hz with ⟨a, b⟩ | ⟨a, b⟩
  · rcases h with ⟨k, _⟩ | ⟨_, k, e, _⟩
    · exact absurd (k.symm.trans a) (by decide)
    · rw [if_pos k.1, b, e, k.2.1]
  · rw [if_neg (by rw [rTf_0 h a]; decide), b]
theorem rCq_u (h : rCq V ld tz x z) (h9 : rCq V9 ld tz x z9) (hv : ¬ ld = 0 → ∀ j, j < 9 → V j = V9 j) : z = z9 := by
  have eq : ∀ i j, i ≤ 9 → j ≤ 9 → x = nI i → x = nI j → i = j := fun i j hi hj a b => (nI_eq (by omega) (by omega)).mp (a.symm.trans b)
  rcases h with ⟨j, a1, a2, a3⟩ | ⟨a1, a2⟩ | ⟨a1, a2⟩ <;> rcases h9 with ⟨i, b1, b2, b3⟩ | ⟨b1, b2⟩ | ⟨b1, b2⟩
  · have e := eq j i (by omega) (by omega) a2 b2
    subst e
    rcases a3 with ⟨c, d⟩ | ⟨c, d⟩ <;> rcases b3 with ⟨e, f⟩ | ⟨e, f⟩
    · exact d.trans f.symm
    · exact absurd c e
    · exact absurd e c
    · rw [d, f, hv c j a1]
  · have := eq j 9 (by omega) (by omega) a2 b1; omega
  · exact absurd a2 (b2 j (by omega))
  · have := eq 9 i (by omega) (by omega) a1 b2; omega
  · exact a2.trans b2.symm
  · exact absurd a1 (b2 9 (by omega))
  · exact absurd b2 (a2 i (by omega))
  · exact absurd b1 (a2 9 (by omega))
  · exact a1.trans b1.symm
theorem rCq_n (h : x < 0) : rCq V ld tz x (-1) := Or.inr (Or.inr ⟨rfl, fun j hj e => nI_pos (n := j) (by omega) (by rw [← e]; exact h)⟩)
theorem rCq_g (h : ¬ x ≤ 9) : rCq V ld tz x (-1) := Or.inr (Or.inr ⟨rfl, fun j hj e => h (by rw [e]; exact (nI_leI (a := j) (b := 9) (by omega) (by decide)).mpr hj)⟩)
theorem rCq_9 : rCq V ld tz (nI 9) tz := Or.inr (Or.inl ⟨rfl, rfl⟩)
theorem rCq_0 {j : Nat} (hj : j < 9) (h : ld = 0) : rCq V ld tz (nI j) 0 := Or.inl ⟨j, hj, rfl, Or.inl ⟨h, rfl⟩⟩
theorem rCq_y {j : Nat} (hj : j < 9) (h : ¬ ld = 0) (e : z = V j) : rCq V ld tz (nI j) z := Or.inl ⟨j, hj, rfl, Or.inr ⟨h, e⟩⟩
theorem gS1_3 {Mn : Nat → Nat} (h3 : nc ≤ 3) (h : ∀ k, k < nc → Mn k = L k) (h0 : ∀ k, nc ≤ k → k < 3 → Mn k = 0) : Mn 0 + Mn 1 + Mn 2 = gS1 L nc := by
  rcases (show nc = 0 ∨ nc = 1 ∨ nc = 2 ∨ nc = 3 by omega) with e | e | e | e <;> subst e
  · rw [h0 0 (by decide) (by decide), h0 1 (by decide) (by decide), h0 2 (by decide) (by decide)]; rfl
  · rw [h 0 (by decide), h0 1 (by decide) (by decide), h0 2 (by decide) (by decide)]
    show L 0 + 0 + 0 = 0 + L 0
    omega
  · rw [h 0 (by decide), h 1 (by decide), h0 2 (by decide) (by decide)]
    show L 0 + L 1 + 0 = 0 + L 0 + L 1
    omega
  · rw [h 0 (by decide), h 1 (by decide), h 2 (by decide)]
    show L 0 + L 1 + L 2 = 0 + L 0 + L 1 + L 2
    omega
theorem gP1_e {Mn : Nat → Nat} : ∀ n, (∀ k, k < n → Mn k = L k) → gP1 Mn n = gP1 L n
  | 0, _ => rfl
  | n + 1, h => by
    show gP1 Mn n + (Mn n - 1) = gP1 L n + (L n - 1)
    rw [gP1_e n (fun k hk => h k (by omega)), h n (by omega)]
/-- every STATE of a machine that stands -/
theorem bI_m {cf dn : Nat → Int32} {m8 : Int32} {vk : Nat} (hm : m8 = 0 ∨ m8 = 1 ∨ m8 = 2) (hG : bG pf L nc) (h : gMach pf cf m8 dn L nc vk) : ∀ i, i ≤ vk → bIe pf L nc m8 (gRun pf cf m8 dn i)
  | 0, _ => ⟨0, bI_0 hG.1⟩
  | i + 1, hi => by
    obtain ⟨d, hd⟩ := bI_m hm hG h i (by omega)
    exact ⟨d + 1, bI_sc hm hG hd (h.1 i (by omega))⟩
end CTT
