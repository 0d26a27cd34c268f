
theorem gCt_i {pf : Nat → Int32} {k : Nat} : ∀ i, gCt pf k i ≤ i
  | 0 => Nat.le_refl _
  | i + 1 => by
    have h := gCt_i (pf := pf) (k := k) i
    have e : gCt pf k (i + 1) = gCt pf k i + (if pf ((((k * 8) + i) * 8) + 0) = 1 then 1 else 0) := rfl
    rw [e]
    split <;> omega
def bSk (pf : Nat → Int32) (L : Nat → Nat) (nc : Nat) : Prop := ∀ k i y, k < nc → i < L k → pf ((((k * 8) + i) * 8) + 0) = nI 8 → y ≤ 7 → pf ((((k * 8) + i) * 8) + 7) = nI y → i + 1 + y ≤ L k
theorem bG_mk {pf : Nat → Int32} {L : Nat → Nat} {nc : Nat} (hg : nc ≤ 3 ∧ (∀ j, j < 3 → L j ≤ 6) ∧ gG L pf 5) (hs : bSk pf L nc) : bG pf L nc := ⟨hg.1, fun k hk => Nat.le_trans (hg.2.1 k hk) (by decide), gG_up (b' := 7) hg.2.2 (by decide), hs, fun k hk => Nat.le_trans (gCt_i _) (hg.2.1 k (by omega))⟩
theorem bSk_m {ld : Int32} {C Mn : Nat → Nat} {kd cl rg v1 i1 v2 i2 sk ci : Nat → Int32} {nc : Nat} {L : Nat → Nat} {cf pf : Nat → Int32} (h3 : C 0 ≤ 3) (hP : gP9 C Mn kd cl rg v1 v2 sk 0) (hM : rMP ld C Mn kd cl rg v1 i1 v2 i2 sk ci nc L cf pf) (hl : ¬ ld = 0) : bSk pf L nc := by
  obtain ⟨hC, hA⟩ := rMP_i hM hl
  intro k i y hk hi h8 hy e7
  obtain ⟨e1, e2⟩ := hA k hk
  obtain ⟨_, _, hins⟩ := hP k (by rw [hC]; exact hk) (by omega)
  rw [show (3 * 0) + k = k by omega, e1] at hins
  obtain ⟨q, hq8, hq, _, hsk⟩ := hins i hi
  rw [show ((36 * 0) + (12 * k)) + i = (12 * k) + i by omega] at hq hsk
  have a0 : kd ((12 * k) + i) = pf ((((k * 8) + i) * 8) + 0) := e2 i hi 0 (by decide)
  have a7 : sk ((12 * k) + i) = pf ((((k * 8) + i) * 8) + 7) := e2 i hi 7 (by decide)
  have eq : q = 8 := (nI_eq (by omega) (by decide)).mp (hq.symm.trans (a0.trans h8))
  obtain ⟨y', hy', ey', hb⟩ := hsk eq
  have := (nI_eq (a := y) (b := y') (by omega) (by omega)).mp (e7.symm.trans (a7.symm.trans ey'))
  omega
theorem rPQ_m {ld : Int32} {C Mn : Nat → Nat} {kd cl rg v1 i1 v2 i2 sk ci : Nat → Int32} {nc : Nat} {L : Nat → Nat} {cf pf : Nat → Int32} (h3 : C 0 ≤ 3) (hP : gP9 C Mn kd cl rg v1 v2 sk 0) (hM : rMP ld C Mn kd cl rg v1 i1 v2 i2 sk ci nc L cf pf) (hg : nc ≤ 3 ∧ (∀ j, j < 3 → L j ≤ 6) ∧ gG L pf 5) : ¬ ld = 0 → rP9 C Mn kd cl rg v1 i1 v2 i2 sk 0 nc L pf ∧ (∀ c, c < 4 → ci c = cf c) ∧ bG pf L nc := by
  intro hl
  obtain ⟨hC, hA⟩ := rMP_i hM hl
  refine ⟨⟨hC, fun k hk => ?_, fun k i hk hi c hc => ?_⟩, (hM hl).2.2, bG_mk hg (bSk_m h3 hP hM hl)⟩
  · rw [show (3 * 0) + k = k by omega]
    exact (hA k hk).1
  · rw [show ((36 * 0) + (12 * k)) + i = (12 * k) + i by omega]
    exact (hA k hk).2 i hi c hc
theorem rd_Tb {pf cf pf9 cf9 : Nat → Int32} {L L9 : Nat → Nat} {nc nc9 : Nat} {df df9 ff sf fr bf en : Nat → Int32} {S E : Nat → Nat} {r z ld ld9 mo9 rc9 cm9 vst vst9 : Int32} {P Q A : Prop} (hT : ∀ t, t < 2 → rTq pf cf L nc t df ff S E sf fr bf en) (h : (r = 0 ∧ ld9 = 1 ∧ P ∧ vst9 = 0) ∨ (¬ r = 0 ∧ ld9 = ld ∧ nc = nc9 ∧ L = L9 ∧ cf = cf9 ∧ pf = pf9 ∧ vst = vst9)) (e : r = z) (k : (z = 0 ∧ mo9 = (-1) ∧ rc9 = (-1) ∧ cm9 = (-1) ∧ ∀ t, t < 3 → df9 t = 0) ∨ (¬ z = 0 ∧ Q ∧ A ∧ df9 = df)) : ∀ t, t < 2 → rTq pf9 cf9 L9 nc9 t df9 ff S E sf fr bf en := by
  subst e
  rcases h with ⟨a, _⟩ | ⟨a, _, a3, a4, a5, a6, _⟩ <;> rcases k with ⟨b, _, _, _, c⟩ | ⟨b, _, _, c⟩
  · exact fun t ht => Or.inl (c t (by omega))
  · exact absurd a b
  · exact absurd b a
  · subst a3; subst a4; subst a5; subst a6; subst c
    exact hT
