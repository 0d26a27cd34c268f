
theorem rd_Rc {pf cf pf9 cf9 : Nat → Int32} {L L9 : Nat → Nat} {nc nc9 rs : Nat} {rt : Nat → Int32} {r z ld ld9 mo9 rc rc9 cm9 vst vst9 rR rW rX : Int32} {P Q A : Prop} (hT : ¬ ld = 0 → rc = (-1) ∨ gRaS pf cf L nc rc rR rW rX rs rt) (h : (r = 0 ∧ ld9 = 1 ∧ P ∧ vst9 = 0) ∨ (¬ r = 0 ∧ ld9 = ld ∧ nc = nc9 ∧ L = L9 ∧ cf = cf9 ∧ pf = pf9 ∧ vst = vst9)) (e : r = z) (k : (z = 0 ∧ mo9 = (-1) ∧ rc9 = (-1) ∧ Q) ∨ (¬ z = 0 ∧ A ∧ rc9 = rc)) : ¬ ld9 = 0 → rc9 = (-1) ∨ gRaS pf9 cf9 L9 nc9 rc9 rR rW rX rs rt := by
  subst e
  rcases h with ⟨a, _⟩ | ⟨a, a2, a3, a4, a5, a6, _⟩ <;> rcases k with ⟨b, _, c, _⟩ | ⟨b, _, c⟩
  · exact fun _ => Or.inl c
  · exact absurd a b
  · exact absurd b a
  · subst a3; subst a4; subst a5; subst a6; subst c
    rw [a2]
    exact hT
