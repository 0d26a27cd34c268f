
/-! the search, as one function of the PROGRAM -/
def gWd (m8 : Int32) (nc : Nat) : Nat := if m8 = 1 then 16 + (nc * 6) else 16
/-- how many STATES, each, whence, whether whole -/
abbrev bT : Type := Nat × (Nat → Nat → Int32) × (Nat → Int32) × Bool
def bUp (S : Nat → Nat → Int32) (n : Nat) (t : Nat → Int32) : Nat → Nat → Int32 := fun m => if m = n then t else S m
theorem bUp_s {S : Nat → Nat → Int32} {n : Nat} {t : Nat → Int32} : bUp S n t n = t := if_pos rfl
theorem bUp_n {S : Nat → Nat → Int32} {n m : Nat} {t : Nat → Int32} (h : m ≠ n) : bUp S n t m = S m := if_neg h
def bSeen (wd N : Nat) (S : Nat → Nat → Int32) (t : Nat → Int32) : Prop := ∃ m, m < N ∧ gAg wd (S m) t
noncomputable def bCell (pf : Nat → Int32) (L : Nat → Nat) (nc : Nat) (m8 : Int32) (T : bT) (n s : Nat) : bT := @ite bT (gCE (T.2.1 n) pf L nc (nI s) ∧ ¬ bSeen (gWd m8 nc) T.1 T.2.1 (gStep pf m8 (T.2.1 n) (nI s))) (Classical.propDecidable _) (if T.1 < 3000 then (T.1 + 1, bUp T.2.1 T.1 (gStep pf m8 (T.2.1 n) (nI s)), upd T.2.2.1 T.1 (nI (n * 8 + s)), T.2.2.2) else (T.1, T.2.1, T.2.2.1, false)) T
noncomputable def bRun (pf cf : Nat → Int32) (L : Nat → Nat) (nc : Nat) (m8 : Int32) : Nat → bT
  | 0 => (1, fun _ => gS0 cf, fun _ => (-1), true)
  | i + 1 => if (bRun pf cf L nc m8 i).2.2.2 = true ∧ i / 6 < (bRun pf cf L nc m8 i).1 then bCell pf L nc m8 (bRun pf cf L nc m8 i) (i / 6) (i % 6) else bRun pf cf L nc m8 i
noncomputable def bFin (pf cf : Nat → Int32) (L : Nat → Nat) (nc : Nat) (m8 : Int32) : bT := bRun pf cf L nc m8 18000
theorem bFin_d {pf cf : Nat → Int32} {L : Nat → Nat} {nc : Nat} {m8 : Int32} : bFin pf cf L nc m8 = bRun pf cf L nc m8 18000 := rfl
section BFS
variable {pf cf : Nat → Int32} {L : Nat → Nat} {nc n s i : Nat} {m8 : Int32} {T : bT}
theorem bCell_k (h : ¬ (gCE (T.2.1 n) pf L nc (nI s) ∧ ¬ bSeen (gWd m8 nc) T.1 T.2.1 (gStep pf m8 (T.2.1 n) (nI s)))) : bCell pf L nc m8 T n s = T := if_neg h
theorem bCell_a (h1 : gCE (T.2.1 n) pf L nc (nI s)) (h2 : ¬ bSeen (gWd m8 nc) T.1 T.2.1 (gStep pf m8 (T.2.1 n) (nI s))) (h3 : T.1 < 3000) : bCell pf L nc m8 T n s = (T.1 + 1, bUp T.2.1 T.1 (gStep pf m8 (T.2.1 n) (nI s)), upd T.2.2.1 T.1 (nI (n * 8 + s)), T.2.2.2) := by
  unfold bCell
  rw [if_pos ⟨h1, h2⟩, if_pos h3]
theorem bCell_f (h1 : gCE (T.2.1 n) pf L nc (nI s)) (h2 : ¬ bSeen (gWd m8 nc) T.1 T.2.1 (gStep pf m8 (T.2.1 n) (nI s))) (h3 : ¬ T.1 < 3000) : bCell pf L nc m8 T n s = (T.1, T.2.1, T.2.2.1, false) := by
  unfold bCell
  rw [if_pos ⟨h1, h2⟩, if_neg h3]
theorem bRun_s (h : (bRun pf cf L nc m8 i).2.2.2 = true ∧ i / 6 < (bRun pf cf L nc m8 i).1) : bRun pf cf L nc m8 (i + 1) = bCell pf L nc m8 (bRun pf cf L nc m8 i) (i / 6) (i % 6) := if_pos h
theorem bRun_k (h : ¬ ((bRun pf cf L nc m8 i).2.2.2 = true ∧ i / 6 < (bRun pf cf L nc m8 i).1)) : ∀ d, bRun pf cf L nc m8 (i + d) = bRun pf cf L nc m8 i
  | 0 => rfl
  | d + 1 => by
    have e := bRun_k h d
    have : ¬ ((bRun pf cf L nc m8 (i + d)).2.2.2 = true ∧ (i + d) / 6 < (bRun pf cf L nc m8 (i + d)).1) := by
      rw [e]
      intro q
      exact h ⟨q.1, by have := q.2; omega⟩
    exact (if_neg this).trans e
theorem bFin_e (h : ¬ ((bRun pf cf L nc m8 i).2.2.2 = true ∧ i / 6 < (bRun pf cf L nc m8 i).1)) (hi : i ≤ 18000) : bFin pf cf L nc m8 = bRun pf cf L nc m8 i := by
  have e := bRun_k h (18000 - i)
  rw [show i + (18000 - i) = 18000 by omega] at e
  rw [bFin_d]
  exact e
/-- the class's rows hold the table T -/
def bCl (T : bT) (wd sz : Nat) (rf cm : Nat → Int32) : Prop := T.2.2.2 = true ∧ T.1 = sz ∧ (∀ n, n < sz → gAg wd (gRo rf wd n) (T.2.1 n)) ∧ ∀ n, n < sz → cm n = T.2.2.1 n
variable {wd sz sz9 : Nat} {rf cm rf9 cm9 sl9 sl f : Nat → Int32} {z : Int32}
theorem gAg_t {f g h : Nat → Int32} (a : gAg wd f g) (b : gAg wd g h) : gAg wd f h := fun j hj => (a j hj).trans (b j hj)
theorem gAg_y {f g : Nat → Int32} (a : gAg wd f g) : gAg wd g f := fun j hj => (a j hj).symm
theorem bCl_k (hB : bCl (bRun pf cf L nc m8 (6 * n + s)) wd sz rf cm) (hs : s < 6) (hn : n < sz) (hc : ¬ gCE ((bRun pf cf L nc m8 (6 * n + s)).2.1 n) pf L nc (nI s)) : bCl (bRun pf cf L nc m8 (6 * n + (s + 1))) wd sz rf cm := by
  have e1 : (6 * n + s) / 6 = n := by omega
  have e2 : (6 * n + s) % 6 = s := by omega
  have h := bRun_s (pf := pf) (cf := cf) (L := L) (nc := nc) (m8 := m8) (i := 6 * n + s) ⟨hB.1, by rw [e1, hB.2.1]; exact hn⟩
  rw [e1, e2, bCell_k (fun q => hc q.1)] at h
  rw [show 6 * n + (s + 1) = 6 * n + s + 1 by omega, h]
  exact hB
theorem bCl_s (hB : bCl (bRun pf cf L nc m8 (6 * n + s)) wd sz rf cm) (hs : s < 6) (hn : n < sz) (hwd : wd = gWd m8 nc) (hc : gCE ((bRun pf cf L nc m8 (6 * n + s)).2.1 n) pf L nc (nI s)) (hf : gAg wd f (gStep pf m8 ((bRun pf cf L nc m8 (6 * n + s)).2.1 n) (nI s))) (hk : gKq z sz sz9 wd rf rf9 cm cm9 sl sl9 f (nI (n * 8 + s))) : (z = 0 ∧ (bRun pf cf L nc m8 (6 * n + (s + 1))).2.2.2 = false) ∨ (z = 1 ∧ bCl (bRun pf cf L nc m8 (6 * n + (s + 1))) wd sz9 rf9 cm9) := by
  have e1 : (6 * n + s) / 6 = n := by omega
  have e2 : (6 * n + s) % 6 = s := by omega
  have h := bRun_s (pf := pf) (cf := cf) (L := L) (nc := nc) (m8 := m8) (i := 6 * n + s) ⟨hB.1, by rw [e1, hB.2.1]; exact hn⟩
  rw [e1, e2] at h
  rw [show 6 * n + (s + 1) = 6 * n + s + 1 by omega, h]
  generalize bRun pf cf L nc m8 (6 * n + s) = T at hB hc hf ⊢
  obtain ⟨b1, b2, b3, b4⟩ := id hB
  have seen : (∃ m, m < sz ∧ gAg wd (gRo rf wd m) f) ↔ bSeen (gWd m8 nc) T.1 T.2.1 (gStep pf m8 (T.2.1 n) (nI s)) := by
    rw [← hwd]
    unfold bSeen
    rw [b2]
    exact ⟨fun ⟨m, hm, q⟩ => ⟨m, hm, gAg_t (gAg_y (b3 m hm)) (gAg_t q hf)⟩, fun ⟨m, hm, q⟩ => ⟨m, hm, gAg_t (b3 m hm) (gAg_t q (gAg_y hf))⟩⟩
  rcases hk with ⟨k1, k2, k3, k4, k5, _⟩ | ⟨k1, ⟨k2, k3⟩ | ⟨k2, k3, k4, k5, k6, k7, _⟩⟩
  · right
    refine ⟨k1, ?_⟩
    rw [bCell_k (fun q => q.2 (seen.mp k2)), k3, k4, k5]
    exact hB
  · left
    refine ⟨k2, ?_⟩
    rw [bCell_f hc (fun q => k1 (seen.mpr q)) (by omega)]
  · right
    refine ⟨k2, ?_⟩
    rw [bCell_a hc (fun q => k1 (seen.mpr q)) (by omega), k4, k7]
    refine ⟨b1, by show T.1 + 1 = sz + 1; rw [b2], fun m hm => ?_, fun m hm => ?_⟩
    · show gAg wd (gRo rf9 wd m) (bUp T.2.1 T.1 (gStep pf m8 (T.2.1 n) (nI s)) m)
      by_cases e : m = sz
      · rw [b2, e, bUp_s]
        exact gAg_t (fun j hj => k6 j hj) hf
      · have hm' : m < sz := by omega
        rw [bUp_n (by omega)]
        exact gAg_t (fun j hj => k5 _ (by have := gy_row (wd := wd) hm'; omega)) (b3 m hm')
    · show upd cm sz (nI (n * 8 + s)) m = upd T.2.2.1 T.1 (nI (n * 8 + s)) m
      rw [b2]
      by_cases e : m = sz
      · rw [e, pk_us, pk_us]
      · rw [pk_un e, pk_un e]
        exact b4 m (by omega)
end BFS
