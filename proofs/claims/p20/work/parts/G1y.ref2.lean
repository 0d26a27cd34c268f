
/-- the PROGRAM of the reference's slot pr is (nc, L, pf) -/
def rP9 (C Mn : Nat → Nat) (kd cl rg v1 i1 v2 i2 sk : Nat → Int32) (pr nc : Nat) (L : Nat → Nat) (pf : Nat → Int32) : Prop := C pr = nc ∧ (∀ k, k < nc → Mn ((3 * pr) + k) = L k) ∧ ∀ k i, k < nc → i < L k → ∀ c, c < 8 → rP8 kd cl rg v1 i1 v2 i2 sk (((36 * pr) + (12 * k)) + i) c = pf ((((k * 8) + i) * 8) + c)
/-- the reference's rows hold the table T -/
def b9 (T : bT) (m8 : Int32) (nc s N : Nat) (sf fr bf : Nat → Int32) : Prop := T.2.2.2 = true ∧ T.1 = N ∧ (∀ n, n < N → rR m8 nc (T.2.1 n) (gR9 sf s n)) ∧ ∀ n, n < N → (T.2.2.1 n = (-1) ∧ fr ((3000 * s) + n) = (-1)) ∨ ∃ p q, p < n ∧ q < 6 ∧ T.2.2.1 n = nI (p * 8 + q) ∧ fr ((3000 * s) + n) = nI p ∧ bf ((3000 * s) + n) = nI q
def bX9 (z : Int32) (T F : bT) (m8 : Int32) (nc s N : Nat) (sf fr bf nf hf : Nat → Int32) : Prop := (¬ z = 0 ∧ b9 T m8 nc s N sf fr bf ∧ gCh s N sf nf hf) ∨ (z = 0 ∧ F.2.2.2 = false)
section RFF
variable {C Mn nx rz cs st L S S9 : Nat → Nat} {kd cl rg v1 i1 v2 i2 sk w w1 w8 f pf cf : Nat → Int32} {sf fr bf nf hf sf9 fr9 bf9 nf9 hf9 nw : Nat → Int32} {m8 mode kp x y z : Int32} {nc pr k n i s9 : Nat}
theorem rMd_1 (h : rMd m8 mode kp) (h1 : m8 = 1) : mode = 1 := by
  rcases h with ⟨_, a, _⟩ | ⟨_, _, a⟩
  · exact a.symm.trans h1
  · exact absurd (h1.symm.trans a) (by decide)
theorem rMd_3 (h : rMd m8 mode kp) : m8 = 0 ∨ m8 = 1 ∨ m8 = 2 := by
  rcases h with ⟨_, a, b⟩ | ⟨_, _, a⟩
  · rw [a]
    rcases b with b | b
    · exact Or.inl b
    · exact Or.inr (Or.inl b)
  · exact Or.inr (Or.inr a)
theorem rCEp (hS : rS f w nx rz cs st) (hM : rM m8 nc rz st) (hm : rMd m8 mode kp) (hG : bG pf L nc) (hP : rP9 C Mn kd cl rg v1 i1 v2 i2 sk pr nc L pf) : gCE f pf L nc x ↔ gCE9 C Mn nx rz kd pr mode x := by
  obtain ⟨hC, hL, hE⟩ := hP
  have hn3 := hG.1
  have kind : ∀ k, k < nc → nx k < L k → ∃ q, q ≤ 8 ∧ pf ((((k * 8) + nx k) * 8) + 0) = nI q ∧ kd (((36 * pr) + (12 * k)) + nx k) = nI q := by
    intro k hk hz
    obtain ⟨q, hq8, hq, _⟩ := hG.2.2.1 k (by omega) (nx k) hz
    have e0 : kd (((36 * pr) + (12 * k)) + nx k) = pf ((((k * 8) + nx k) * 8) + 0) := hE k (nx k) hk hz 0 (by decide)
    exact ⟨q, hq8, hq, e0.trans hq⟩
  constructor
  · rintro (⟨k, hk, e, q⟩ | ⟨k, hk, e, q, r⟩)
    · rw [rS_sz hS hk] at q
      have h1 : m8 = 1 := Decidable.byContradiction (fun h => by have := hM.1 h k hk; omega)
      have h2 : k < nc := Decidable.byContradiction (fun h => by have := hM.2.2 k (by omega) hk; omega)
      exact Or.inl ⟨k, hk, by rw [hC]; exact h2, e, q, rMd_1 hm h1⟩
    · have hk3 : k < 3 := by omega
      rw [rS_ne hS hk3] at q r
      rw [rS_sz hS hk3] at r
      obtain ⟨q8, hq8, e1, e2⟩ := kind k hk q
      refine Or.inr ⟨k, hk3, by rw [hC]; exact hk, e, by rw [hL k hk]; exact q, r.imp id (fun r => ?_)⟩
      rw [e1] at r
      rw [e2]
      exact (gNw_q q8 hq8).mpr r
  · rintro (⟨k, hk, hc, e, q, h1⟩ | ⟨k, hk, hc, e, q, r⟩)
    · exact Or.inl ⟨k, hk, e, by rw [rS_sz hS hk]; exact q⟩
    · rw [hC] at hc
      rw [hL k hc] at q
      obtain ⟨q8, hq8, e1, e2⟩ := kind k hc q
      refine Or.inr ⟨k, hc, e, by rw [rS_ne hS hk]; exact q, ?_⟩
      rw [rS_ne hS hk, rS_sz hS hk]
      refine r.imp id (fun r => ?_)
      rw [e2] at r
      rw [e1]
      exact (gNw_q q8 hq8).mp r
theorem rG_x (hk : k < 3) (hd : ∀ (f : Nat → Int32) (cs st : Nat → Nat), rS f w nx rz cs st → rS (gLg f k) w8 nx (updN rz k (rz k - 1)) (updN cs k (cs k / 4)) st) (hS : rS f w nx rz cs st) (hM : rM m8 nc rz st) : rR m8 nc (gStep pf m8 f (nI (3 + k))) w8 := by
  rw [gStep_G hk]
  refine ⟨_, _, _, _, hd f cs st hS, rM_le hM (fun j hj => ?_)⟩
  by_cases q : j = k
  · subst q
    rw [updN_s]
    omega
  · rw [updN_n q]
    exact Nat.le_refl _
theorem rK_x (hk : k < 3) (hkC : k < C pr) (hz : nx k < Mn ((3 * pr) + k)) (hd : rDo kd cl rg v1 i1 v2 i2 sk w nx rz mode kp k (((36 * pr) + (12 * k)) + (nx k)) w8) (hS : rS f w nx rz cs st) (hM : rM m8 nc rz st) (hm : rMd m8 mode kp) (hG : bG pf L nc) (hP : rP9 C Mn kd cl rg v1 i1 v2 i2 sk pr nc L pf) : rR m8 nc (gStep pf m8 f (nI k)) w8 := by
  obtain ⟨hC, hL, hE⟩ := hP
  have hkn : k < nc := by omega
  rw [hL k hkn] at hz
  have hL8 := hG.2.1 k hk
  rw [gStep_K hk, rS_ne hS hk]
  obtain ⟨nx9, rz9, cs9, st9, g1, g2, _⟩ := hd f pf _ nc m8 cs st hS hM hm hkn (by omega) (hG.2.2.1 k hk (nx k) hz) (fun c hc => hE k (nx k) hkn hz c hc)
  exact ⟨nx9, rz9, cs9, st9, g1, g2⟩
theorem gWd_34 (h : nc ≤ 3) : gWd m8 nc ≤ 34 := by
  unfold gWd
  by_cases q : m8 = 1
  · rw [if_pos q]; omega
  · rw [if_neg q]; decide
theorem b9_0 (hr : rR m8 nc (gS0 cf) nw) (h0 : S s9 = 0) (hk : gC9 z S S9 sf sf9 fr fr9 bf bf9 nf nf9 hf hf9 nw s9 (-1) y) : bX9 z (bRun pf cf L nc m8 (6 * 0)) (bFin pf cf L nc m8) m8 nc s9 (S9 s9) sf9 fr9 bf9 nf9 hf9 := by
  rcases hk with ⟨_, ⟨m, hm, _⟩, _⟩ | ⟨_, ⟨_, h, _⟩ | ⟨h1, _, h3, h4, h5, h6, h7⟩⟩
  · omega
  · omega
  · subst h3
    rw [h0] at h4 h5 h7
    rw [updN_s, h0]
    refine Or.inl ⟨by rw [h1]; decide, ⟨rfl, rfl, fun n hn => ?_, fun n hn => ?_⟩, h7⟩
    · have e : n = 0 := by omega
      subst e
      exact rR_ext hr (fun j hj => h4.1 j hj)
    · have e : n = 0 := by omega
      subst e
      exact Or.inl ⟨rfl, by rw [h5]; exact pk_us⟩
theorem b9_k (hB : b9 (bRun pf cf L nc m8 (6 * n + i)) m8 nc s9 (S s9) sf fr bf) (hi : i < 6) (hn : n < S s9) (hc : ¬ gCE ((bRun pf cf L nc m8 (6 * n + i)).2.1 n) pf L nc (nI i)) : b9 (bRun pf cf L nc m8 (6 * n + (i + 1))) m8 nc s9 (S s9) sf fr bf := by
  have e1 : (6 * n + i) / 6 = n := by omega
  have e2 : (6 * n + i) % 6 = i := by omega
  have h := bRun_s (pf := pf) (cf := cf) (L := L) (nc := nc) (m8 := m8) (i := 6 * n + i) ⟨hB.1, by rw [e1, hB.2.1]; exact hn⟩
  rw [e1, e2, bCell_k (fun q => hc q.1)] at h
  rw [show 6 * n + (i + 1) = 6 * n + i + 1 by omega, h]
  exact hB
theorem b9_s (h3 : nc ≤ 3) (hB : b9 (bRun pf cf L nc m8 (6 * n + i)) m8 nc s9 (S s9) sf fr bf) (hi : i < 6) (hn : n < S s9) (hc : gCE ((bRun pf cf L nc m8 (6 * n + i)).2.1 n) pf L nc (nI i)) (hr : rR m8 nc (gStep pf m8 ((bRun pf cf L nc m8 (6 * n + i)).2.1 n) (nI i)) nw) (hN : S s9 ≤ 3000) (hk : gC9 z S S9 sf sf9 fr fr9 bf bf9 nf nf9 hf hf9 nw s9 (nI n) (nI i)) (hC : gCh s9 (S s9) sf nf hf) : bX9 z (bRun pf cf L nc m8 (6 * n + (i + 1))) (bFin pf cf L nc m8) m8 nc s9 (S9 s9) sf9 fr9 bf9 nf9 hf9 := by
  have e1 : (6 * n + i) / 6 = n := by omega
  have e2 : (6 * n + i) % 6 = i := by omega
  have h := bRun_s (pf := pf) (cf := cf) (L := L) (nc := nc) (m8 := m8) (i := 6 * n + i) ⟨hB.1, by rw [e1, hB.2.1]; exact hn⟩
  rw [e1, e2] at h
  have hf : (bRun pf cf L nc m8 (6 * n + (i + 1))).2.2.2 = false → (bFin pf cf L nc m8).2.2.2 = false := by
    intro q
    rw [bFin_e (i := 6 * n + (i + 1)) (fun p => absurd (p.1.symm.trans q) (by decide)) (by omega)]
    exact q
  rw [show 6 * n + (i + 1) = 6 * n + i + 1 by omega, h] at hf ⊢
  generalize bRun pf cf L nc m8 (6 * n + i) = T at hB hc hr hf ⊢
  obtain ⟨b1, b2, b3, b4⟩ := id hB
  have seen : (∃ m, m < S s9 ∧ gAg 58 (gR9 sf s9 m) nw) ↔ bSeen (gWd m8 nc) T.1 T.2.1 (gStep pf m8 (T.2.1 n) (nI i)) := by
    unfold bSeen
    rw [b2]
    have hw := gWd_34 (m8 := m8) h3
    exact ⟨fun ⟨m, hm, q⟩ => ⟨m, hm, fun j hj => rR_wf (b3 m hm) hr q j (by omega)⟩, fun ⟨m, hm, q⟩ => ⟨m, hm, rR_fw (b3 m hm) hr q⟩⟩
  rcases hk with ⟨k1, k2, k3, k4, k5, k6, k7, k8⟩ | ⟨k1, ⟨k2, k3, _⟩ | ⟨k2, k3, k4, k5, k6, k7, k8⟩⟩
  · rw [bCell_k (fun q => q.2 (seen.mp k2)), k3, k4, k5, k6, k7, k8]
    exact Or.inl ⟨by rw [k1]; decide, hB, hC⟩
  · right
    refine ⟨k2, hf ?_⟩
    rw [bCell_f hc (fun q => k1 (seen.mpr q)) (by omega)]
  · subst k4
    rw [bCell_a hc (fun q => k1 (seen.mpr q)) (by omega), updN_s]
    refine Or.inl ⟨by rw [k2]; decide, ⟨b1, by show T.1 + 1 = S s9 + 1; rw [b2], fun m hm => ?_, fun m hm => ?_⟩, k8⟩
    · show rR m8 nc (bUp T.2.1 T.1 (gStep pf m8 (T.2.1 n) (nI i)) m) (gR9 sf9 s9 m)
      by_cases e : m = S s9
      · rw [b2, e, bUp_s]
        exact rR_ext hr (fun j hj => k5.1 j hj)
      · have hm' : m < S s9 := by omega
        rw [bUp_n (by omega)]
        exact rR_ext (b3 m hm') (fun j hj => k5.2 _ (by omega))
    · show (upd T.2.2.1 T.1 (nI (n * 8 + i)) m = (-1) ∧ fr9 ((3000 * s9) + m) = (-1)) ∨ ∃ p q, p < m ∧ q < 6 ∧ upd T.2.2.1 T.1 (nI (n * 8 + i)) m = nI (p * 8 + q) ∧ fr9 ((3000 * s9) + m) = nI p ∧ bf9 ((3000 * s9) + m) = nI q
      rw [b2, k6, k7]
      by_cases e : m = S s9
      · rw [e]
        exact Or.inr ⟨n, i, hn, hi, pk_us, pk_us, pk_us⟩
      · rw [pk_un e, pk_un (by omega), pk_un (by omega)]
        exact b4 m (by omega)
theorem bX9_b {F : bT} {N : Nat} (h : bX9 z (bRun pf cf L nc m8 (6 * n + i)) F m8 nc s9 N sf fr bf nf hf) (e : i = 6 ∨ z = 0) : bX9 z (bRun pf cf L nc m8 (6 * (n + 1))) F m8 nc s9 N sf fr bf nf hf := by
  rcases e with e | e
  · rw [show 6 * (n + 1) = 6 * n + i by omega]
    exact h
  · exact Or.inr ⟨e, (h.resolve_left (fun q => q.1 e)).2⟩
theorem bX9_f {N : Nat} (h : bX9 z (bRun pf cf L nc m8 (6 * n)) (bFin pf cf L nc m8) m8 nc s9 N sf fr bf nf hf) (hn : N ≤ n ∨ z = 0) (h3 : n ≤ 3000) : (z = 0 ∧ (bFin pf cf L nc m8).2.2.2 = false) ∨ (¬ z = 0 ∧ b9 (bFin pf cf L nc m8) m8 nc s9 N sf fr bf) := by
  rcases h with ⟨a, b, _⟩ | h
  · rcases hn with hn | hn
    · right
      refine ⟨a, ?_⟩
      rw [bFin_e (i := 6 * n) (fun q => by have h8 := q.2; rw [b.2.1] at h8; omega) (by omega)]
      exact b
    · exact absurd hn a
  · exact Or.inl h
end RFF
