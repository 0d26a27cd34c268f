
section RC8
variable {f pf kd cl sf w : Nat → Int32} {L nx C Mn rz cs st : Nat → Nat} {nc n k r x i : Nat} {m8 z : Int32}
theorem gQ2_x (h : gQ2 f pf kd cl sf L nx Mn C nc n) (hI : gG L pf 7) (hk : k < nc) (hn : nx k < Mn k) (h0 : kd (12 * k + nx k) = 0) : ∃ x, x < 4 ∧ cl (12 * k + nx k) = nI x ∧ gLdx f pf L k x := by
  obtain ⟨_, h3, a, _, b⟩ := id h
  obtain ⟨b1, _, b2⟩ := b k hk
  obtain ⟨c1, c2⟩ := b2 (nx k) (by omega)
  obtain ⟨q, hq8, hq, _, hgc, _⟩ := hI k (by omega) (nx k) (by omega)
  have e : q = 0 := (nI_eq (a := q) (b := 0) (by omega) (by decide)).mp (hq.symm.trans (c1.symm.trans h0))
  subst e
  obtain ⟨x, hx, ex⟩ := hgc (by decide) (by decide) (by decide) (by decide)
  have e1 : cl (12 * k + nx k) = nI x := c2.trans ex
  exact ⟨x, hx, e1, gQ2_l h hk hn h0 e1⟩
theorem gQ2_rw (h : gQ2 f pf kd cl sf L nx Mn C nc n) (hx : x < 4) (hl : gLdx f pf L r x) (hr : ¬ (k < nc ∧ nx k < Mn k ∧ cl (12 * k + nx k) = nI x ∧ (kd (12 * k + nx k) = 1 ∨ kd (12 * k + nx k) = 5 ∨ kd (12 * k + nx k) = 6 ∨ kd (12 * k + nx k) = 7))) : ∀ x9, ¬ gRq f pf L nc r k x9 := by
  intro x9 q
  have e := gLdx_u hx q.2.2.2.1 hl q.2.2.2.2.1
  subst e
  exact gQ2_wn h q.2.1 (fun p => hr ⟨q.2.1, p⟩) q.2.2.2.2.2.2
theorem gQ2_mk {v1 i1 v2 i2 sk rg : Nat → Int32} {fr bf : Nat → Int32} {T : bT} {N : Nat} (h3 : nc ≤ 3) (h8 : ∀ k, k < 3 → L k ≤ 8) (hb : b9 T m8 nc 2 N sf fr bf) (hn : n < N) (hP : rP9 C Mn kd cl rg v1 i1 v2 i2 sk 0 nc L pf) (hG : ∀ k, k < 3 → sf (((6000 + n) * 58) + k) = nI (nx k) ∧ nx k ≤ 1200) : gQ2 (T.2.1 n) pf kd cl sf L nx Mn C nc n := by
  obtain ⟨hC, hL, hE⟩ := hP
  obtain ⟨nx', rz', cs', st', hS, _⟩ := hb.2.2.1 n hn
  have key : ∀ j, sf (((6000 + n) * 58) + j) = gR9 sf 2 n j := by
    intro j
    show sf (((6000 + n) * 58) + j) = sf ((((3000 * 2) + n) * 58) + j)
    congr 1
  refine ⟨hC, h3, fun k hk => ?_, fun k hk => ?_, fun k hk => ⟨?_, h8 k (by omega), fun i hi => ⟨?_, ?_⟩⟩⟩
  · rw [rS_ne hS hk]
    obtain ⟨_, c2, _, _, _, c6, _⟩ := hS.2 k hk
    have := (hG k hk).2
    have e := (hG k hk).1
    rw [key, c6] at e
    exact (nI_eq (by omega) (by omega)).mp e
  · obtain ⟨c1, c2, c3, c4, c5, _, _, c8, _⟩ := hS.2 k hk
    rw [c1, gSto_p c2 (by omega) (gcs_12 c3 c4) c5, show (((6000 + n) * 58) + 55) + k = ((6000 + n) * 58) + (55 + k) by omega, key]
    exact c8
  · have := hL k hk
    rw [show (3 * 0) + k = k by omega] at this
    exact this
  · have := hE k i hk hi 0 (by decide)
    rw [show ((36 * 0) + (12 * k)) + i = 12 * k + i by omega] at this
    exact this
  · have := hE k i hk hi 1 (by decide)
    rw [show ((36 * 0) + (12 * k)) + i = 12 * k + i by omega] at this
    exact this
/-- the reference's search for it so far -/
def gRl3 (pf cf : Nat → Int32) (L : Nat → Nat) (nc n : Nat) (an lo wr ce : Int32) (t : Nat) (pa : Nat → Int32) : Prop := (an = (-2) ∧ (bFin pf cf L nc (nI 2)).2.2.2 = false) ∨ ((bFin pf cf L nc (nI 2)).2.2.2 = true ∧ gRl2 pf cf L nc n an lo wr ce t pa)
theorem gRl3_e {cf : Nat → Int32} {an lo wr ce : Int32} {t : Nat} {pa : Nat → Int32} (h : gRl3 pf cf L nc n an lo wr ce t pa) (he : (bFin pf cf L nc (nI 2)).2.2.2 = true → (bFin pf cf L nc (nI 2)).1 ≤ n ∨ ¬ an = 0) : gRaS pf cf L nc an lo wr ce t pa := by
  rcases h with h | ⟨h1, h2⟩
  · exact Or.inl h
  · exact gRl2_e h1 h2 (he h1)
/-- the steps are being told -/
def gRs (ps : Nat → Nat) (l k : Nat) (g : Nat → Int32) : Prop := k ≤ l ∧ ∀ j, j < k → g j = nI (ps j)
theorem gRs_s {ps : Nat → Nat} {l k : Nat} {g : Nat → Int32} {z y : Int32} (h : gRs ps l k g) (hl : l ≤ 36) (ha : gAn l ps (nI k) z) (hz : ¬ z < 0) (hy : gAn l ps (nI k) y) : gRs ps l (k + 1) (upd g k y) := by
  rcases ha with ⟨j, a, b, c⟩ | ⟨a, _⟩
  · rcases hy with ⟨j9, a9, b9, c9⟩ | ⟨_, b9⟩
    · have hk := h.1
      have e := (nI_eq (a := k) (b := j9) (by omega) (by omega)).mp b9
      subst e
      refine ⟨by omega, fun i hi => ?_⟩
      by_cases q : i = k
      · subst q
        rw [pk_us]
        exact c9
      · rw [pk_un q]
        exact h.2 i (by omega)
    · exact absurd b (b9 j a)
  · rw [a] at hz
    exact absurd (by decide) hz
theorem gRs_e {ps : Nat → Nat} {l k : Nat} {g : Nat → Int32} {z : Int32} (h : gRs ps l k g) (hl : l ≤ 36) (h6 : ∀ j, j < l → ps j < 6) (ha : gAn l ps (nI k) z) (hz : z < 0) : k = l := by
  have hk := h.1
  rcases ha with ⟨j, a, b, c⟩ | ⟨_, b⟩
  · rw [c] at hz
    have := h6 j a
    exact absurd hz (nI_pos (by omega))
  · rcases Nat.lt_or_ge k l with q | q
    · exact absurd rfl (b k q)
    · omega
end RC8
section RC7
variable {pf cf f sf fr bf pa pa9 : Nat → Int32} {L ps : Nat → Nat} {nc n N t t9 l : Nat} {an lo wr ce lo9 wr9 ce9 a b c z x : Int32} {Q : Prop}
theorem gRl3_b (hF : (x = 1 ∧ (bFin pf cf L nc (nI 2)).2.2.2 = false) ∨ (x = 0 ∧ b9 (bFin pf cf L nc (nI 2)) (nI 2) nc 2 N sf fr bf ∧ Q)) (h : gRl3 pf cf L nc n an lo wr ce t pa) (ha : an = 0) : b9 (bFin pf cf L nc (nI 2)) (nI 2) nc 2 N sf fr bf := by
  rcases h with ⟨q, _⟩ | ⟨h1, _⟩
  · exact absurd (q.symm.trans ha) (by decide)
  · rcases hF with ⟨_, k⟩ | ⟨_, k, _⟩
    · exact absurd (h1.symm.trans k) (by decide)
    · exact k
theorem gRl3_N (hF : (x = 1 ∧ (bFin pf cf L nc (nI 2)).2.2.2 = false) ∨ (x = 0 ∧ b9 (bFin pf cf L nc (nI 2)) (nI 2) nc 2 N sf fr bf ∧ Q)) (hw : (bFin pf cf L nc (nI 2)).2.2.2 = true) (hn : N ≤ n) : (bFin pf cf L nc (nI 2)).1 ≤ n := by
  rcases hF with ⟨_, k⟩ | ⟨_, k, _⟩
  · exact absurd (hw.symm.trans k) (by decide)
  · rw [k.2.1]; exact hn
theorem gRl3_n (h : gRl3 pf cf L nc n an lo wr ce t pa) (ha : an = 0) (h3 : nc ≤ 3) (hi : gIr ((bFin pf cf L nc (nI 2)).2.1 n) pf L nc z a b c) (hz : z = 0) : gRl3 pf cf L nc (n + 1) an lo9 wr9 ce9 t pa := by
  rcases h with ⟨q, _⟩ | ⟨h1, h2⟩
  · exact absurd (q.symm.trans ha) (by decide)
  · exact Or.inr ⟨h1, gRl2_n h3 (Nat.le_refl 16) h2 ha (fun _ _ => rfl) hi hz⟩
theorem gRl3_y (h : gRl3 pf cf L nc n an lo wr ce t pa) (ha : an = 0) (h3 : nc ≤ 3) (hi : gIr ((bFin pf cf L nc (nI 2)).2.1 n) pf L nc z a b c) (hz : ¬ z = 0) (hn : n < (bFin pf cf L nc (nI 2)).1) (hp : gPth (bFin pf cf L nc (nI 2)).2.2.1 ps l n) (hl : l ≤ 36) (ht : t9 = l) (hs : gRs ps l t9 pa9) : gRl3 pf cf L nc (n + 1) 1 a b c t9 pa9 := by
  rcases h with ⟨q, _⟩ | ⟨h1, h2⟩
  · exact absurd (q.symm.trans ha) (by decide)
  · exact Or.inr ⟨h1, gRl2_y h3 (Nat.le_refl 16) h2 ha (fun _ _ => rfl) hi hz hn hp hl ht (fun j hj => hs.2 j (by omega))⟩
theorem gXw (h0 : ¬ x < 0) (h3 : ¬ 3 ≤ x) (e0 : ¬ x = 0) (e1 : ¬ x = 1) : x = nI 2 := by
  obtain ⟨j, hj, e⟩ := nI_of h0
  subst e
  have a : j < 3 := Nat.lt_of_not_le (fun q => h3 ((nI_leI (a := 3) (b := j) (by decide) hj).mpr q))
  rcases (show j = 0 ∨ j = 1 ∨ j = 2 by omega) with e | e | e <;> subst e
  · exact absurd rfl e0
  · exact absurd rfl e1
  · rfl
end RC7
