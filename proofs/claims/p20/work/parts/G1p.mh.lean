
/-- the reference's machine is the class's (vst, vk, vm, vd) -/
def rMH (vst : Int32) (vk : Nat) (vm : Int32) (vd pf cf : Nat → Int32) (nc : Nat) (ld mo : Int32) (dn : Nat) (mf hh : Nat → Int32) : Prop := (vst = 0 ∧ mo = (-1)) ∨ (¬ vst = 0 ∧ mo = vm ∧ (vm = 0 ∨ vm = 1) ∧ ¬ ld = 0 ∧ dn = vk ∧ rR vm nc (gRun pf cf vm vd vk) mf ∧ ∀ j, j < vk → rR vm nc (gRun pf cf vm vd j) (fun i => hh ((58 * j) + i)))
theorem rq_m {ok : (Nat → Int32) → Nat → Nat → Nat → Prop} {val : (Nat → Int32) → Nat → Nat → Nat → Int32} {d k i x z vst vm : Int32} {pf cf vd mf : Nat → Int32} {L : Nat → Nat} {nc vk : Nat} (hM : gMs vst pf cf vm vd L nc vk mf) (h0 : ∀ g a b c, ok g a b c → ¬ vst = 0) (h : rQ (ok mf) (val mf) d k i x z) : rQ (ok (gRun pf cf vm vd vk)) (val (gRun pf cf vm vd vk)) d k i x z := by
  rcases hM with e | ⟨_, e⟩
  · rcases h with ⟨a, b, c, _, _, _, ho, _⟩ | ⟨hz, _⟩
    · exact absurd e (h0 _ _ _ _ ho)
    · exact Or.inr ⟨hz, fun a b c _ _ _ ho _ _ _ => h0 _ _ _ _ ho e⟩
  · rw [← e]
    exact h
section MHH
variable {vst vm ld mo r z x : Int32} {vk vk9 dn dn9 nc : Nat} {vd vd9 pf cf mf hh mf9 hh9 kd cl rg v1 i1 v2 i2 sk ci : Nat → Int32} {C Mn L : Nat → Nat}
theorem mm_no (hm : vm = 0 ∨ vm = 1) : ¬ vm < 0 := by
  rcases hm with e | e <;> subst e <;> decide
theorem mm_n2 (hm : vm = 0 ∨ vm = 1) : ¬ vm = 2 := by
  rcases hm with e | e <;> subst e <;> decide
theorem gG_pr (hg : nc ≤ 3 ∧ (∀ j, j < 3 → L j ≤ 6) ∧ gG L pf 5) (hP : ∀ a, a < nc → Mn a = L a ∧ ∀ b, b < L a → ∀ c, c < 8 → rP8 kd cl rg v1 i1 v2 i2 sk ((12 * a) + b) c = pf ((((a * 8) + b) * 8) + c)) : rPr Mn kd cl rg v1 i1 v2 i2 sk pf nc := by
  intro k i hk hi
  obtain ⟨e1, e2⟩ := hP k hk
  rw [e1] at hi
  have h6 := hg.2.1 k (by omega)
  exact ⟨by omega, gG_up (b' := 7) hg.2.2 (by decide) k (by omega) i hi, e2 i hi⟩
theorem st_eq (hmo : ¬ mo < 0) (hH : rMH vst vk vm vd pf cf nc ld mo dn mf hh) (hd : dn ≤ 36) (hg : nc ≤ 3 ∧ (∀ j, j < 3 → L j ≤ 6) ∧ gG L pf 5) (hP : ¬ ld = 0 → C 0 = nc ∧ ∀ a, a < nc → Mn a = L a ∧ ∀ b, b < L a → ∀ c, c < 8 → rP8 kd cl rg v1 i1 v2 i2 sk ((12 * a) + b) c = pf ((((a * 8) + b) * 8) + c)) (h8 : (r = 0 ∧ vk9 = vk ∧ vd9 = vd ∧ (vst = 0 ∨ 38 ≤ vk ∨ ¬ gCE (gRun pf cf vm vd vk) pf L nc x)) ∨ (r = 1 ∧ ¬ vst = 0 ∧ vk9 = vk + 1 ∧ vd9 = upd vd vk x ∧ vk < 38 ∧ gCE (gRun pf cf vm vd vk) pf L nc x)) (h9 : (z = 0 ∧ dn9 = dn ∧ mf9 = mf ∧ hh9 = hh ∧ (mo < 0 ∨ ∃ nx rz : Nat → Nat, gW9 mf nx rz ∧ ¬ gCE9 C Mn nx rz kd 0 mo x)) ∨ (z = 1 ∧ dn9 = dn + 1 ∧ ¬ mo < 0 ∧ gRow hh9 hh mf (58 * dn) 58 ∧ ∃ nx rz : Nat → Nat, gW9 mf nx rz ∧ gCE9 C Mn nx rz kd 0 mo x ∧ rSp9 C Mn kd cl rg v1 i1 v2 i2 sk mf nx rz mo x mf9)) : r = z ∧ rMH vst vk9 vm vd9 pf cf nc ld mo dn9 mf9 hh9 := by
  rcases hH with ⟨_, e⟩ | ⟨h1, h2, h3, h4, h5, h6, h7⟩
  · exact absurd (by rw [e]; decide) hmo
  · subst h2; subst h5
    obtain ⟨hC, hPa⟩ := hP h4
    have hpr := gG_pr hg hPa
    have key : ∀ nx rz : Nat → Nat, gW9 mf nx rz → (gCE (gRun pf cf mo vd dn) pf L nc x ↔ gCE9 C Mn nx rz kd 0 mo x) := by
      intro nx rz hw
      obtain ⟨cs, st, hS, hM⟩ := rR_of h6 hw
      exact rCE hS hM (mm_n2 h3) hg.1 hC (fun k hk => (hPa k hk).1) hpr
    rcases h8 with ⟨a1, a2, a3, a4⟩ | ⟨a1, a2, a3, a4, a5, a6⟩ <;> rcases h9 with ⟨b1, b2, b3, b4, b5⟩ | ⟨b1, b2, b3, b4, nx, rz, b5, b6, b7⟩
    · subst a2; subst a3; subst b2; subst b3; subst b4
      exact ⟨a1.trans b1.symm, Or.inr ⟨h1, rfl, h3, h4, rfl, h6, h7⟩⟩
    · rcases a4 with a4 | a4 | a4
      · exact absurd a4 h1
      · omega
      · exact absurd ((key nx rz b5).mpr b6) a4
    · rcases b5 with b5 | ⟨nx, rz, c1, c2⟩
      · exact absurd b5 hmo
      · exact absurd ((key nx rz c1).mp a6) c2
    · subst a3; subst a4; subst b2
      obtain ⟨cs, st, hS, hM⟩ := rR_of h6 b5
      refine ⟨a1.trans b1.symm, Or.inr ⟨h1, rfl, h3, h4, rfl, ?_, fun j hj => ?_⟩⟩
      · rw [gRun_next]
        exact b7 _ pf nc cs st hS hM h3 hC hpr
      · rw [gRun_upd j (by omega)]
        by_cases e : j = dn
        · subst e
          exact rR_ext h6 (fun i hi => b4.1 i hi)
        · exact rR_ext (h7 j (by omega)) (fun i hi => b4.2 _ (by omega))
theorem ud_eq (hmo : ¬ mo < 0) (hH : rMH vst vk vm vd pf cf nc ld mo dn mf hh) (h8 : (r = 0 ∧ vk9 = vk ∧ (vst = 0 ∨ vk = 0)) ∨ (r = 1 ∧ ¬ vst = 0 ∧ vk9 = vk - 1 ∧ 0 < vk)) (h9 : (z = 0 ∧ dn9 = dn ∧ mf9 = mf ∧ (mo < 0 ∨ dn = 0)) ∨ (z = 1 ∧ ¬ mo < 0 ∧ 0 < dn ∧ dn9 = dn - 1 ∧ ∀ j, j < 58 → mf9 j = hh ((58 * (dn - 1)) + j))) : r = z ∧ rMH vst vk9 vm vd pf cf nc ld mo dn9 mf9 hh := by
  rcases hH with ⟨_, e⟩ | ⟨h1, h2, h3, h4, h5, h6, h7⟩
  · exact absurd (by rw [e]; decide) hmo
  · subst h2; subst h5
    rcases h8 with ⟨a1, a2, a3⟩ | ⟨a1, a2, a3, a4⟩ <;> rcases h9 with ⟨b1, b2, b3, b4⟩ | ⟨b1, b2, b3, b4, b5⟩
    · subst a2; subst b2; subst b3
      exact ⟨a1.trans b1.symm, Or.inr ⟨h1, rfl, h3, h4, rfl, h6, h7⟩⟩
    · rcases a3 with a3 | a3
      · exact absurd a3 h1
      · omega
    · rcases b4 with b4 | b4
      · exact absurd b4 hmo
      · omega
    · subst a3; subst b4
      exact ⟨a1.trans b1.symm, Or.inr ⟨h1, rfl, h3, h4, rfl, rR_ext (h7 (dn - 1) (by omega)) (fun j hj => b5 j hj), fun j hj => h7 j (by omega)⟩⟩
theorem bg_mh {vst9 vm9 mo9 : Int32} (hH : rMH vst vk vm vd pf cf nc ld mo dn mf hh) (hc : ¬ ld = 0 → ∀ c, c < 4 → ci c = cf c) (e : r = z) (h1 : (r = 1 ∧ ¬ ld = 0 ∧ (x = 0 ∨ x = 1)) ∨ (r = 0 ∧ ¬ (¬ ld = 0 ∧ (x = 0 ∨ x = 1)))) (h8 : (r = 0 ∧ vst9 = vst ∧ vk9 = vk ∧ vm9 = vm) ∨ (r = 1 ∧ vst9 = 1 ∧ vk9 = 0 ∧ vm9 = x)) (h9 : (z = 0 ∧ mo9 = mo ∧ dn9 = dn ∧ mf9 = mf) ∨ (z = 1 ∧ mo9 = x ∧ dn9 = 0 ∧ (∀ j, j < 58 → (j < 12 ∨ 16 ≤ j) → mf9 j = 0) ∧ ∀ c, c < 4 → mf9 (12 + c) = ci c)) : rMH vst9 vk9 vm9 vd pf cf nc ld mo9 dn9 mf9 hh := by
  subst e
  rcases h8 with ⟨a1, a2, a3, a4⟩ | ⟨a1, a2, a3, a4⟩ <;> rcases h9 with ⟨b1, b2, b3, b4⟩ | ⟨b1, b2, b3, b4, b5⟩
  · subst a2; subst a3; subst a4; subst b2; subst b3; subst b4
    exact hH
  · exact absurd (a1.symm.trans b1) (by decide)
  · exact absurd (a1.symm.trans b1) (by decide)
  · rcases h1 with ⟨_, c2, c3⟩ | ⟨c1, _⟩
    · subst a2; subst a3; subst a4; subst b2; subst b3
      exact Or.inr ⟨by decide, rfl, c3, c2, rfl, rR_0 b4 (fun c h => (b5 c h).trans (hc c2 c h)), fun j hj => absurd hj (Nat.not_lt_zero j)⟩
    · exact absurd (a1.symm.trans c1) (by decide)
theorem rd_MH {vst9 mo9 ld9 rc rc9 cm cm9 : Int32} {df df9 : Nat → Int32} {nc9 : Nat} {L9 : Nat → Nat} {cf9 pf9 : Nat → Int32} {P Q : Prop} (hH : rMH vst vk vm vd pf cf nc ld mo dn mf hh) (h : (r = 0 ∧ ld9 = 1 ∧ P ∧ vst9 = 0) ∨ (¬ r = 0 ∧ ld9 = ld ∧ nc = nc9 ∧ L = L9 ∧ cf = cf9 ∧ pf = pf9 ∧ vst = vst9)) (e : r = z) (k : (z = 0 ∧ mo9 = (-1) ∧ Q) ∨ (¬ z = 0 ∧ mo9 = mo ∧ dn9 = dn ∧ rc9 = rc ∧ cm9 = cm ∧ df9 = df)) : rMH vst9 vk vm vd pf9 cf9 nc9 ld9 mo9 dn9 mf hh := by
  subst e
  rcases h with ⟨a1, _, _, a4⟩ | ⟨a1, a2, a3, a4, a5, a6, a7⟩ <;> rcases k with ⟨b1, b2, _⟩ | ⟨b1, b2, b3, _⟩
  · exact Or.inl ⟨a4, b2⟩
  · exact absurd a1 b1
  · exact absurd b1 a1
  · subst a2; subst a3; subst a5; subst a6; subst a7; subst b2; subst b3
    exact hH
theorem mq_ok (hH : rMH vst vk vm vd pf cf nc ld mo dn mf hh) : (vst = 0 ∧ mo < 0) ∨ (¬ vst = 0 ∧ ¬ mo < 0 ∧ ¬ ld = 0 ∧ rR vm nc (gRun pf cf vm vd vk) mf) := by
  rcases hH with ⟨a, b⟩ | ⟨h1, h2, h3, h4, h5, h6, h7⟩
  · exact Or.inl ⟨a, by rw [b]; decide⟩
  · exact Or.inr ⟨h1, by rw [h2]; exact mm_no h3, h4, h6⟩
end MHH
