
/-! which STATES are ends, and how many -/
def gEd (f : Nat → Int32) (L : Nat → Nat) (nc : Nat) : Prop := ∀ k, k < nc → gLo (f (13 + k)) = L k
def gEe (C Mn nx rz : Nat → Nat) (pr : Nat) : Prop := ∀ k, k < C pr → Mn ((3 * pr) + k) ≤ nx k ∧ rz k = 0
noncomputable def bEc (E : Nat → Prop) : Nat → Nat
  | 0 => 0
  | n + 1 => bEc E n + @ite Nat (E n) (Classical.propDecidable _) 1 0
section ENN
variable {E : Nat → Prop} {pf cf f g w : Nat → Int32} {L C Mn nx rz cs st : Nat → Nat} {nc n i wd pr d : Nat} {m8 : Int32} {kd cl rg v1 i1 v2 i2 sk : Nat → Int32}
theorem bEc_y (h : E n) : bEc E (n + 1) = bEc E n + 1 := by
  show bEc E n + @ite Nat (E n) (Classical.propDecidable _) 1 0 = bEc E n + 1
  rw [if_pos h]
theorem bEc_n (h : ¬ E n) : bEc E (n + 1) = bEc E n := by
  show bEc E n + @ite Nat (E n) (Classical.propDecidable _) 1 0 = bEc E n
  rw [if_neg h, Nat.add_zero]
theorem gEd_ag (h : gAg wd f g) (hw : 16 ≤ wd) (h3 : nc ≤ 3) : gEd f L nc ↔ gEd g L nc := ⟨fun q k hk => by rw [← h (13 + k) (by omega)]; exact q k hk, fun q k hk => by rw [h (13 + k) (by omega)]; exact q k hk⟩
theorem bRun_d (h : n < (bRun pf cf L nc m8 i).1) : ∀ d, (bRun pf cf L nc m8 (i + d)).2.1 n = (bRun pf cf L nc m8 i).2.1 n ∧ n < (bRun pf cf L nc m8 (i + d)).1
  | 0 => ⟨rfl, h⟩
  | d + 1 => by
    obtain ⟨a, b⟩ := bRun_d h d
    obtain ⟨a', b'⟩ := bRun_r b
    exact ⟨a'.trans a, b'⟩
theorem bFin_r (h : n < (bRun pf cf L nc m8 i).1) (hi : i ≤ 18000) : (bFin pf cf L nc m8).2.1 n = (bRun pf cf L nc m8 i).2.1 n ∧ n < (bFin pf cf L nc m8).1 := by
  have e := bRun_d h (18000 - i)
  rw [show i + (18000 - i) = 18000 by omega] at e
  rw [bFin_d]
  exact e
end ENN
