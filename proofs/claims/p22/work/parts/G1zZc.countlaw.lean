
section CNL
variable {pf cf mf hh vd : Nat → Int32} {L C Mn nx rz : Nat → Nat} {nc vk dn : Nat} {vst vm ld mo : Int32} {P P9 Q Q9 : Prop}
theorem bCv_c {c0 c1 c8 d0 d1 d8 vk9 : Nat} (e0 : c0 = d0) (e1 : c1 = d1) (hP : P ↔ P9) (hk : P → vk = vk9) (hQ : P → (Q ↔ Q9)) (e8 : c8 = d8) : ∀ j, bCv pf cf L nc c0 c1 P vk Q c8 j = bCv pf cf L nc d0 d1 P9 vk9 Q9 d8 j := by
  intro j
  subst e0; subst e1; subst e8
  match j with
  | 0 => rfl
  | 1 => rfl
  | 2 => rfl
  | 3 => rfl
  | 4 => rfl
  | 5 => rfl
  | 6 =>
    show bYs P (nI vk) 0 = bYs P9 (nI vk9) 0
    by_cases h : P
    · rw [bYs_y h, bYs_y (hP.mp h), hk h]
    · rw [bYs_n h, bYs_n (fun q => h (hP.mpr q))]
  | 7 =>
    show bYs (P ∧ Q) 1 0 = bYs (P9 ∧ Q9) 1 0
    by_cases h : P ∧ Q
    · rw [bYs_y h, bYs_y ⟨hP.mp h.1, (hQ h.1).mp h.2⟩]
    · rw [bYs_n h, bYs_n (fun q => h ⟨hP.mpr q.1, (hQ (hP.mpr q.1)).mpr q.2⟩)]
  | n + 8 => rfl
theorem rCq_c {V V9 : Nat → Int32} {tz x z : Int32} (h : ∀ j, V j = V9 j) (k : rCq V ld tz x z) : rCq V9 ld tz x z := by
  rcases k with ⟨j, a, b, c⟩ | k
  · exact Or.inl ⟨j, a, b, c.imp id (fun q => ⟨q.1, q.2.trans (h j)⟩)⟩
  · exact Or.inr k
theorem rCq_m {tz x z : Int32} {c8 c1 : Nat} (hM : gMs vst pf cf vm vd L nc vk mf) (k : rCq (bCv pf cf L nc nc c1 (¬ vst = 0) vk (gEd mf L nc) c8) ld tz x z) : rCq (bCv pf cf L nc nc c1 (¬ vst = 0) vk (gEd (gRun pf cf vm vd vk) L nc) c8) ld tz x z := rCq_c (bCv_c rfl rfl Iff.rfl (fun _ => rfl) (fun h => by rw [(hM.resolve_left h).2]) rfl) k
theorem cn_nx (h : rMH vst vk vm vd pf cf nc ld mo dn mf hh) : ∃ nx rz : Nat → Nat, (¬ mo < 0 → gW9 mf nx rz) ∧ (¬ vst = 0 → ∃ cs st : Nat → Nat, rS (gRun pf cf vm vd vk) mf nx rz cs st) := by
  rcases h with ⟨a, b⟩ | ⟨_, _, _, _, _, ⟨nx, rz, cs, st, hS, _⟩, _⟩
  · exact ⟨fun _ => 0, fun _ => 0, fun q => absurd (by rw [b]; decide) q, fun q => absurd a q⟩
  · exact ⟨nx, rz, fun _ => rS_g9 hS, fun _ => ⟨cs, st, hS⟩⟩
theorem cn_eq {kd cl rg v1 i1 v2 i2 sk : Nat → Int32} {tz x z z9 : Int32} (h : rMH vst vk vm vd pf cf nc ld mo dn mf hh) (hS : ¬ vst = 0 → ∃ cs st : Nat → Nat, rS (gRun pf cf vm vd vk) mf nx rz cs st) (hP : ¬ ld = 0 → rP9 C Mn kd cl rg v1 i1 v2 i2 sk 0 nc L pf ∧ (∀ c : Nat, c < 4 → True) ∧ bG pf L nc) (hz : ¬ ld = 0 → ∀ k, C 0 ≤ k → k < 3 → Mn k = 0) (hm : vst = 0 ∨ gMach pf cf vm vd L nc vk) (h8 : rCq (bCv pf cf L nc nc (gS1 L nc) (¬ vst = 0) vk (gEd (gRun pf cf vm vd vk) L nc) (gP1 L nc)) ld tz x z) (h9 : rCq (bCv pf cf L nc (C 0) (Mn 0 + Mn 1 + Mn 2) (¬ mo < 0) dn (gEe C Mn nx rz 0) (gP1 Mn (C 0))) ld tz x z9) : z = z9 := by
  refine rCq_u h8 h9 (fun hl j _ => ?_)
  obtain ⟨hP9, _, hG⟩ := hP hl
  have hL : ∀ k, k < nc → Mn k = L k := fun k hk => by
    have := hP9.2.1 k hk
    rw [show (3 * 0) + k = k by omega] at this
    exact this
  refine bCv_c hP9.1.symm (gS1_3 hG.1 hL (by rw [← hP9.1]; exact hz hl)).symm ?_ ?_ ?_ (by rw [hP9.1]; exact (gP1_e nc hL).symm) j
  · rcases h with ⟨a, b⟩ | ⟨a, b, c, _⟩
    · exact ⟨fun q => absurd a q, fun q => absurd (by rw [b]; decide) q⟩
    · refine ⟨fun _ q => ?_, fun _ => a⟩
      rw [b] at q
      rcases c with c | c <;> rw [c] at q <;> exact absurd q (by decide)
  · intro hv
    rcases h with ⟨a, _⟩ | ⟨_, _, _, _, e, _⟩
    · exact absurd a hv
    · exact e.symm
  · intro hv
    obtain ⟨cs, st, hs⟩ := hS hv
    have hm3 : vm = 0 ∨ vm = 1 ∨ vm = 2 := by
      rcases h with ⟨a, _⟩ | ⟨_, _, c, _⟩
      · exact absurd a hv
      · exact c.imp id Or.inl
    obtain ⟨d, hd⟩ := bI_m hm3 hG (hm.resolve_left hv) vk (Nat.le_refl _)
    exact gEd_9 hs hd hG hP9
theorem rd_Mz {r z ld9 ip9 : Int32} {C9 Mn9 : Nat → Nat} {P1 Q1 A B : Prop} (hz : ¬ ld = 0 → ∀ k, C 0 ≤ k → k < 3 → Mn k = 0) (h : (r = 0 ∧ ld9 = 1 ∧ P1) ∨ (¬ r = 0 ∧ ld9 = ld ∧ Q1)) (e : r = z) (k : (z = 0 ∧ ip9 = 1 ∧ A) ∨ (¬ z = 0 ∧ ip9 = ld ∧ C9 0 = C 0 ∧ (∀ j, j < 3 → Mn9 j = Mn j) ∧ B)) (g : z = 0 → ∀ k, C9 0 ≤ k → k < 3 → Mn9 k = 0) : ¬ ld9 = 0 → ∀ k, C9 0 ≤ k → k < 3 → Mn9 k = 0 := by
  subst e
  rcases k with ⟨a, _⟩ | ⟨a, _, b, c, _⟩
  · exact fun _ => g a
  · intro hl k h1 h2
    rw [c k h2]
    rw [b] at h1
    rcases h with ⟨q, _⟩ | ⟨_, q, _⟩
    · exact absurd q a
    · rw [q] at hl
      exact hz hl k h1 h2
end CNL
