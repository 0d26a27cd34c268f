
def gLkd (x : Int32) : Prop := x = 5 ∨ x = 6 ∨ x = 7
def gWts (x : Int32) : Prop := x = 4 ∨ gLkd x
/-- what the class can do -/
def gCE (f pf : Nat → Int32) (L : Nat → Nat) (nc : Nat) (x : Int32) : Prop := (∃ k, k < 3 ∧ x = nI (3 + k) ∧ 0 < gSz (f (13 + k))) ∨ (∃ k, k < nc ∧ x = nI k ∧ gNx (f (13 + k)) < L k ∧ (gSz (f (13 + k)) = 0 ∨ ¬ gWts (pf ((((k * 8) + gNx (f (13 + k))) * 8) + 0))))
/-- what the reference can do -/
def gNw (x : Int32) : Prop := (¬ x = 4 ∧ x < 5) ∨ x = 8
def gCE9 (C Mn nx rz : Nat → Nat) (kd : Nat → Int32) (pr : Nat) (mode x : Int32) : Prop := (∃ k, k < 3 ∧ k < C pr ∧ x = nI (3 + k) ∧ 0 < rz k ∧ mode = 1) ∨ (∃ k, k < 3 ∧ k < C pr ∧ x = nI k ∧ nx k < Mn ((3 * pr) + k) ∧ (rz k = 0 ∨ gNw (kd (((36 * pr) + (12 * k)) + nx k))))
section CEE
variable {f pf kd cl rg v1 i1 v2 i2 sk w : Nat → Int32} {L C Mn nx rz cs st : Nat → Nat} {nc k js pr : Nat} {x mode m8 : Int32}
theorem gCE_g (hk : k < 3) (hc : nc ≤ 3) (h : ¬ 0 < gSz (f (13 + k))) : ¬ gCE f pf L nc (nI (3 + k)) := by
  rintro (⟨j, hj, e, q⟩ | ⟨j, hj, e, _⟩)
  · have := (nI_eq (a := 3 + k) (b := 3 + j) (by omega) (by omega)).mp e
    have e2 : k = j := by omega
    subst e2
    exact h q
  · have := (nI_eq (a := 3 + k) (b := j) (by omega) (by omega)).mp e
    omega
theorem gCE_o (hc : nc ≤ 3) (h36 : x < 3 ∨ 6 ≤ x) (hx : x < 0 ∨ nI nc ≤ x) : ¬ gCE f pf L nc x := by
  rintro (⟨j, hj, e, q⟩ | ⟨j, hj, e, _⟩)
  · subst e
    rcases h36 with h | h
    · have := (nI_ltI (a := 3 + j) (b := 3) (by omega) (by decide)).mp h
      omega
    · have := (nI_leI (a := 6) (b := 3 + j) (by decide) (by omega)).mp h
      omega
  · subst e
    rcases hx with h | h
    · exact nI_pos (by omega) h
    · have := (nI_leI (a := nc) (b := j) (by omega) (by omega)).mp h
      omega
theorem gCE_k (hk : k < nc) (hc : nc ≤ 3) : gCE f pf L nc (nI k) ↔ (gNx (f (13 + k)) < L k ∧ (gSz (f (13 + k)) = 0 ∨ ¬ gWts (pf ((((k * 8) + gNx (f (13 + k))) * 8) + 0)))) := by
  constructor
  · rintro (⟨j, hj, e, q⟩ | ⟨j, hj, e, q⟩)
    · have := (nI_eq (a := k) (b := 3 + j) (by omega) (by omega)).mp e
      omega
    · have := (nI_eq (a := k) (b := j) (by omega) (by omega)).mp e
      subst this
      exact q
  · intro q
    exact Or.inr ⟨k, hk, rfl, q⟩
theorem gCE9_o (h : x < 0 ∨ ¬ x ≤ 5) : ¬ gCE9 C Mn nx rz kd pr mode x := by
  have key : ∀ j, j ≤ 5 → x = nI j → False := by
    intro j hj e
    subst e
    rcases h with h | h
    · exact nI_pos (by omega) h
    · exact h ((nI_leI (a := j) (b := 5) (by omega) (by decide)).mpr hj)
  rintro (⟨j, hj, _, e, _⟩ | ⟨j, hj, _, e, _⟩)
  · exact key (3 + j) (by omega) e
  · exact key j (by omega) e
theorem gCE9_g (hj : js ≤ 5) (h3 : 2 < js) : gCE9 C Mn nx rz kd pr mode (nI js) ↔ (js % 3 < C pr ∧ 0 < rz (js % 3) ∧ mode = 1) := by
  constructor
  · rintro (⟨k, hk, hc, e, q⟩ | ⟨k, hk, hc, e, q⟩)
    · have := (nI_eq (a := js) (b := 3 + k) (by omega) (by omega)).mp e
      have e2 : js % 3 = k := by omega
      rw [e2]
      exact ⟨hc, q⟩
    · have := (nI_eq (a := js) (b := k) (by omega) (by omega)).mp e
      omega
  · rintro ⟨hc, q⟩
    exact Or.inl ⟨js % 3, by omega, hc, by congr 1; omega, q⟩
theorem gCE9_k (hj : js ≤ 5) (h3 : js ≤ 2) : gCE9 C Mn nx rz kd pr mode (nI js) ↔ (js % 3 < C pr ∧ nx (js % 3) < Mn ((3 * pr) + (js % 3)) ∧ (rz (js % 3) = 0 ∨ gNw (kd (((36 * pr) + (12 * (js % 3))) + nx (js % 3))))) := by
  constructor
  · rintro (⟨k, hk, hc, e, q⟩ | ⟨k, hk, hc, e, q⟩)
    · have := (nI_eq (a := js) (b := 3 + k) (by omega) (by omega)).mp e
      omega
    · have := (nI_eq (a := js) (b := k) (by omega) (by omega)).mp e
      have e2 : js % 3 = k := by omega
      rw [e2]
      exact ⟨hc, q⟩
  · rintro ⟨hc, q⟩
    exact Or.inr ⟨js % 3, by omega, hc, by congr 1; omega, q⟩
theorem gNw_q : ∀ q, q ≤ 8 → (gNw (nI q) ↔ ¬ gWts (nI q)) := by
  intro q hq
  unfold gNw gWts gLkd
  rcases (show q = 0 ∨ q = 1 ∨ q = 2 ∨ q = 3 ∨ q = 4 ∨ q = 5 ∨ q = 6 ∨ q = 7 ∨ q = 8 by omega) with e | e | e | e | e | e | e | e | e <;> subst e <;> decide +kernel
/-- the PROGRAM of both at the places that are read -/
def rPr (Mn : Nat → Nat) (kd cl rg v1 i1 v2 i2 sk pf : Nat → Int32) (nc : Nat) : Prop := ∀ k i, k < nc → i < Mn k → i < 8 ∧ gIns pf (((k * 8) + i) * 8) 7 ∧ ∀ c, c < 8 → rP8 kd cl rg v1 i1 v2 i2 sk ((12 * k) + i) c = pf ((((k * 8) + i) * 8) + c)
theorem rCE (hS : rS f w nx rz cs st) (hM : rM m8 nc rz st) (hm : ¬ m8 = 2) (hn3 : nc ≤ 3) (hC : C 0 = nc) (hL : ∀ k, k < nc → Mn k = L k) (hP : rPr Mn kd cl rg v1 i1 v2 i2 sk pf nc) : gCE f pf L nc x ↔ gCE9 C Mn nx rz kd 0 m8 x := by
  constructor
  · rintro (⟨k, hk, e, q⟩ | ⟨k, hk, e, q, r⟩)
    · rw [rS_sz hS hk] at q
      have h1 : m8 = 1 := Decidable.byContradiction (fun h => by have := hM.1 h k hk; omega)
      have h2 : k < nc := Decidable.byContradiction (fun h => by have := hM.2.2 k (by omega) hk; omega)
      exact Or.inl ⟨k, hk, by rw [hC]; exact h2, e, q, h1⟩
    · have hk3 : k < 3 := by omega
      rw [rS_ne hS hk3] at q r
      rw [rS_sz hS hk3] at r
      rw [← hL k hk] at q
      obtain ⟨_, hI, hE⟩ := hP k (nx k) hk q
      refine Or.inr ⟨k, hk3, by rw [hC]; exact hk, e, by rw [show (3 * 0) + k = k by omega]; exact q, r.imp id (fun r => ?_)⟩
      obtain ⟨q8, hq8, e8, _⟩ := hI
      have e0 : kd ((12 * k) + nx k) = pf ((((k * 8) + nx k) * 8) + 0) := hE 0 (by decide)
      rw [show ((36 * 0) + (12 * k)) + nx k = (12 * k) + nx k by omega, e0, e8]
      rw [e8] at r
      exact (gNw_q q8 hq8).mpr r
  · rintro (⟨k, hk, hc, e, q, h1⟩ | ⟨k, hk, hc, e, q, r⟩)
    · exact Or.inl ⟨k, hk, e, by rw [rS_sz hS hk]; exact q⟩
    · rw [hC] at hc
      rw [show (3 * 0) + k = k by omega] at q
      obtain ⟨_, hI, hE⟩ := hP k (nx k) hc q
      refine Or.inr ⟨k, hc, e, by rw [rS_ne hS hk, ← hL k hc]; exact q, ?_⟩
      rw [rS_ne hS hk, rS_sz hS hk]
      refine r.imp id (fun r => ?_)
      obtain ⟨q8, hq8, e8, _⟩ := hI
      have e0 : kd ((12 * k) + nx k) = pf ((((k * 8) + nx k) * 8) + 0) := hE 0 (by decide)
      rw [show ((36 * 0) + (12 * k)) + nx k = (12 * k) + nx k by omega, e0, e8] at r
      rw [e8]
      exact (gNw_q q8 hq8).mp r
end CEE
