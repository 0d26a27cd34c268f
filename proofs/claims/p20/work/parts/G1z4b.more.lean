
/-! OUTCOMES with ROWS that are none without -/
def gC1 (z x y : Int32) : Prop := (z = 0 ∧ x = y) ∨ (z = (-1) ∧ x < y) ∨ (z = 1 ∧ y < x)
def gRr (rec : Nat → Int32) (n : Nat) : Nat → Int32 := fun i => rec ((n * 17) + i)
def gNo (R Q : Nat → Nat → Int32) (M k : Nat) : Prop := ∀ j, j < M → ¬ ∀ i, i < 13 → R k i = Q j i
def gMr (N : Nat → Prop) (M : Nat) (x z : Int32) : Prop := (∃ k, k < M ∧ N k ∧ x = nI (bEc N k) ∧ z = nI k) ∨ (z = (-1) ∧ ∀ k, k < M → N k → ¬ x = nI (bEc N k))
section MRR
variable {R Q R9 Q9 : Nat → Nat → Int32} {N N9 : Nat → Prop} {f g : Nat → Int32} {M n i u t me s1 k : Nat} {x y z z9 : Int32}
theorem gC1_0 (h : gC1 z x y) (hz : z = 0) : x = y := by
  rcases h with ⟨_, e⟩ | ⟨e, _⟩ | ⟨e, _⟩
  · exact e
  · exact absurd (e.symm.trans hz) (by decide)
  · exact absurd (e.symm.trans hz) (by decide)
theorem gCq_c (hi : i < 13) (h : ∀ j, j < i → f j = g j) (hc : gC1 z (f i) (g i)) (hz : ¬ z = 0) : gCq z f g := by
  rcases hc with ⟨e, _⟩ | ⟨e, l⟩ | ⟨e, l⟩
  · exact absurd e hz
  · exact Or.inr (Or.inl ⟨e, i, hi, h, l⟩)
  · exact Or.inr (Or.inr ⟨e, i, hi, fun j hj => (h j hj).symm, l⟩)
theorem gCq_neg (h : gCq z f g) (hz : ¬ 0 ≤ z) : gOl f g := by
  rcases h with ⟨e, _⟩ | ⟨_, l⟩ | ⟨e, _⟩
  · rw [e] at hz; exact absurd (by decide) hz
  · exact l
  · rw [e] at hz; exact absurd (by decide) hz
theorem gCq_pos (h : gCq z f g) (hz : 0 ≤ z) : ¬ gOl f g := by
  rcases h with ⟨_, l⟩ | ⟨e, _⟩ | ⟨_, l⟩
  · exact gOl_eq l
  · rw [e] at hz; exact absurd hz (by decide)
  · exact fun q => gOl_as l q
theorem gCq_z (h : gCq z f g) (hz : z = 0) : ∀ j, j < 13 → f j = g j := by
  rcases h with ⟨_, l⟩ | ⟨e, _⟩ | ⟨e, _⟩
  · exact l
  · exact absurd (e.symm.trans hz) (by decide)
  · exact absurd (e.symm.trans hz) (by decide)
theorem gCq_nz (h : gCq z f g) (hz : ¬ z = 0) (hn : ¬ gOl f g) : gOl g f := by
  rcases h with ⟨e, _⟩ | ⟨_, l⟩ | ⟨_, l⟩
  · exact absurd e hz
  · exact absurd l hn
  · exact l
theorem gNo_a (h : ∀ j, j < u → gOl (Q j) (R n)) (hu : M ≤ u) : gNo R Q M n := fun j hj e => gOl_eq (fun i hi => (e i hi).symm) (h j (by omega))
theorem gNo_b (h : ∀ j, j < u → gOl (Q j) (R n)) (hs : ∀ i j, i < j → j < M → gOl (Q i) (Q j)) (hg : gOl (R n) (Q u)) : gNo R Q M n := fun j hj e => by
  rcases Nat.lt_trichotomy j u with q | q | q
  · exact gOl_eq (fun i hi => (e i hi).symm) (h j q)
  · rw [q] at e
    exact gOl_eq e hg
  · exact gOl_eq e (gOl_tr hg (hs u j q hj))
theorem gNo_n (hu : u < M) (h : ∀ j, j < 13 → Q u j = R n j) : ¬ gNo R Q M n := fun q => q u hu (fun i hi => (h i hi).symm)
/-- the look through both so far -/
def gMl (R Q : Nat → Nat → Int32) (s1 M n t me : Nat) (x : Int32) : Prop := me = bEc (gNo R Q M) n ∧ (∀ k, k < n → gNo R Q M k → ¬ x = nI (bEc (gNo R Q M) k)) ∧ ∀ j m, j < t → n ≤ m → m < s1 → gOl (Q j) (R m)
theorem gMl_0 : gMl R Q s1 M 0 0 0 x := ⟨rfl, fun k h => absurd h (Nat.not_lt_zero k), fun j m h => absurd h (Nat.not_lt_zero j)⟩
theorem gMl_u (h : gMl R Q s1 M n t me x) (hs : ∀ i j, i < j → j < s1 → gOl (R i) (R j)) (hn : n < s1) (hu : ∀ j, j < u → gOl (Q j) (R n)) : ∀ j m, j < u → n + 1 ≤ m → m < s1 → gOl (Q j) (R m) := fun j m hj hm hs1 => gOl_tr (hu j hj) (hs n m (by omega) hs1)
theorem gMl_y (h : gMl R Q s1 M n t me x) (hs : ∀ i j, i < j → j < s1 → gOl (R i) (R j)) (hn : n < s1) (hu : ∀ j, j < u → gOl (Q j) (R n)) (hw : gNo R Q M n) (hx : ¬ nI me = x) : gMl R Q s1 M (n + 1) u (me + 1) x := by
  refine ⟨by rw [bEc_y (E := gNo R Q M) hw, ← h.1], fun k hk hN => ?_, gMl_u h hs hn hu⟩
  by_cases q : k = n
  · rw [q, ← h.1]; exact fun w => hx w.symm
  · exact h.2.1 k (by omega) hN
theorem gMl_n (h : gMl R Q s1 M n t me x) (hs : ∀ i j, i < j → j < s1 → gOl (R i) (R j)) (hn : n < s1) (hu : ∀ j, j < u → gOl (Q j) (R n)) (hw : ¬ gNo R Q M n) : gMl R Q s1 M (n + 1) u me x := by
  refine ⟨by rw [bEc_n (E := gNo R Q M) hw, ← h.1], fun k hk hN => ?_, gMl_u h hs hn hu⟩
  by_cases q : k = n
  · rw [q] at hN; exact absurd hN hw
  · exact h.2.1 k (by omega) hN
theorem gMl_r (h : gMl R Q s1 M n t me x) (hn : n < s1) (hw : gNo R Q M n) (hx : nI me = x) : gMr (gNo R Q M) s1 x (nI n) := Or.inl ⟨n, hn, hw, by rw [← h.1]; exact hx.symm, rfl⟩
theorem gMl_e (h : gMl R Q s1 M n t me x) (hn : s1 ≤ n) : gMr (gNo R Q M) s1 x (-1) := Or.inr ⟨rfl, fun k hk => h.2.1 k (by omega)⟩
theorem bEc_c {E E9 : Nat → Prop} : ∀ n, (∀ j, j < n → (E j ↔ E9 j)) → bEc E n = bEc E9 n
  | 0, _ => rfl
  | n + 1, h => by
    have ih := bEc_c n (fun j hj => h j (by omega))
    by_cases c : E n
    · rw [bEc_y c, bEc_y ((h n (by omega)).mp c), ih]
    · rw [bEc_n c, bEc_n (fun q => c ((h n (by omega)).mpr q)), ih]
theorem gMr_c (hm : gMr N M x z) (h : ∀ k, k < M → (N k ↔ N9 k)) : gMr N9 M x z := by
  rcases hm with ⟨k, a, b, c, d⟩ | ⟨a, b⟩
  · exact Or.inl ⟨k, a, (h k a).mp b, by rw [← bEc_c k (fun j hj => h j (by omega))]; exact c, d⟩
  · exact Or.inr ⟨a, fun k hk hN => by rw [← bEc_c k (fun j hj => h j (by omega))]; exact b k hk ((h k hk).mpr hN)⟩
theorem gNo_c (h1 : ∀ i, i < 13 → R k i = R9 k i) (h2 : ∀ j, j < M → ∀ i, i < 13 → Q j i = Q9 j i) : gNo R Q M k ↔ gNo R9 Q9 M k := ⟨fun h j hj e => h j hj (fun i hi => (h1 i hi).trans ((e i hi).trans (h2 j hj i hi).symm)), fun h j hj e => h j hj (fun i hi => (h1 i hi).symm.trans ((e i hi).trans (h2 j hj i hi)))⟩
end MRR
/-- more, as it is asked for -/
def rMo (pf cf : Nat → Int32) (L : Nat → Nat) (nc : Nat) (ld x z : Int32) : Prop := (ld = 0 ∧ z = (-1)) ∨ (¬ ld = 0 ∧ ((¬ ((bFin pf cf L nc (nI 1)).2.2.2 = true ∧ (bFin pf cf L nc (nI 0)).2.2.2 = true) ∧ z = (-2)) ∨ ((bFin pf cf L nc (nI 1)).2.2.2 = true ∧ (bFin pf cf L nc (nI 0)).2.2.2 = true ∧ ∃ el1 el0 : Nat → Nat, bEl pf cf L nc 1 el1 ∧ bEl pf cf L nc 0 el0 ∧ gMr (gNo (fun k => (bFin pf cf L nc (nI 1)).2.1 (el1 k)) (fun k => (bFin pf cf L nc (nI 0)).2.1 (el0 k)) (bEc (fun m => gEd ((bFin pf cf L nc (nI 0)).2.1 m) L nc) (bFin pf cf L nc (nI 0)).1)) (bEc (fun m => gEd ((bFin pf cf L nc (nI 1)).2.1 m) L nc) (bFin pf cf L nc (nI 1)).1) x z)))
section MOO
variable {pf cf rec1 rec0 : Nat → Int32} {L el1 el0 : Nat → Nat} {nc st1 s1 st0 s0 : Nat} {ld x z z9 fl1 fl0 : Int32}
theorem fSp_so {t s2 : Nat} {el : Nat → Nat} {fl : Int32} (ht : t < 2) (hG : bG pf L nc) (h : bEw (bFin pf cf L nc (nI t)).2.1 (fun m => gEd ((bFin pf cf L nc (nI t)).2.1 m) L nc) (bFin pf cf L nc (nI t)).1 s2 el) (hr : ∀ n, n < s2 → gRec rec1 n ((bFin pf cf L nc (nI t)).2.1 (el n)) (bFin pf cf L nc (nI t)).2.2.1 (el n)) : ∀ i j, i < j → j < s2 → gOl (gRr rec1 i) (gRr rec1 j) := fun i j hij hj => gOl_13 (fun q hq => ((hr i (by omega)).1 q hq).symm) (fun q hq => ((hr j hj).1 q hq).symm) ((bEw_e h (bFin_O (bMd ht) hG)).2.1 i j hij hj)
theorem rMo_8 (hl : ¬ ld = 0) (h1 : fSp pf cf L nc 1 fl1 st1 s1 rec1) (h0 : fSp pf cf L nc 0 fl0 st0 s0 rec0) (e1 : fl1 = 0) (e0 : fl0 = 0) (h : gMr (gNo (gRr rec1) (gRr rec0) s0) s1 x z) : rMo pf cf L nc ld x z := by
  obtain ⟨a1, _, a3, el1, a4, a5⟩ := fSp_1 h1 e1
  obtain ⟨b1, _, b3, el0, b4, b5⟩ := fSp_1 h0 e0
  have h9 : gMr (gNo (fun k => (bFin pf cf L nc (nI 1)).2.1 (el1 k)) (fun k => (bFin pf cf L nc (nI 0)).2.1 (el0 k)) s0) s1 x z := gMr_c h (fun k hk => gNo_c (fun i hi => (a5 k hk).1 i hi) (fun j hj i hi => (b5 j hj).1 i hi))
  rw [a3] at a4 h9
  rw [b3] at b4 h9
  exact Or.inr ⟨hl, Or.inr ⟨a1, b1, el1, el0, a4, b4, h9⟩⟩
theorem rMo_f (hl : ¬ ld = 0) (h : ¬ ((bFin pf cf L nc (nI 1)).2.2.2 = true ∧ (bFin pf cf L nc (nI 0)).2.2.2 = true)) : rMo pf cf L nc ld x (-2) := Or.inr ⟨hl, Or.inl ⟨h, rfl⟩⟩
end MOO
/-- the reference's look so far -/
def gMj (N : Nat → Prop) (k me : Nat) (x : Int32) : Prop := me = bEc N k ∧ ∀ j, j < k → N j → ¬ x = nI (bEc N j)
section MQQ
variable {N : Nat → Prop} {f g : Nat → Int32} {k me M : Nat} {x z : Int32}
theorem gMj_0 : gMj N 0 0 x := ⟨rfl, fun j h => absurd h (Nat.not_lt_zero j)⟩
theorem gMj_y (h : gMj N k me x) (hw : N k) (hx : ¬ nI me = x) : gMj N (k + 1) (me + 1) x := by
  refine ⟨by rw [bEc_y hw, ← h.1], fun j hj hN => ?_⟩
  by_cases q : j = k
  · rw [q, ← h.1]; exact fun w => hx w.symm
  · exact h.2 j (by omega) hN
theorem gMj_n (h : gMj N k me x) (hw : ¬ N k) : gMj N (k + 1) me x := by
  refine ⟨by rw [bEc_n hw, ← h.1], fun j hj hN => ?_⟩
  by_cases q : j = k
  · rw [q] at hN; exact absurd hN hw
  · exact h.2 j (by omega) hN
theorem gMj_r (h : gMj N k me x) (hk : k < M) (hw : N k) (hx : nI me = x) : gMr N M x (nI k) := Or.inl ⟨k, hk, hw, by rw [← h.1]; exact hx.symm, rfl⟩
theorem gMj_e (h : gMj N k me x) (hk : M ≤ k) : gMr N M x (-1) := Or.inr ⟨rfl, fun j hj => h.2 j (by omega)⟩
theorem gCq_nq (h : gCq z f g) (hz : ¬ z = 0) : ¬ ∀ i, i < 13 → f i = g i := by
  intro e
  rcases h with ⟨a, _⟩ | ⟨_, l⟩ | ⟨_, l⟩
  · exact hz a
  · exact gOl_eq e l
  · exact gOl_eq (fun j hj => (e j hj).symm) l
end MQQ
theorem rMo_9 {pf cf sf fr bf : Nat → Int32} {L S E el1 el0 : Nat → Nat} {nc : Nat} {ld x z : Int32} (hl : ¬ ld = 0) (w1 : (bFin pf cf L nc (nI 1)).2.2.2 = true) (w0 : (bFin pf cf L nc (nI 0)).2.2.2 = true) (b1 : b9 (bFin pf cf L nc (nI 1)) (nI 1) nc 1 (S 1) sf fr bf) (e1 : E 1 = bEc (fun m => gEd ((bFin pf cf L nc (nI 1)).2.1 m) L nc) (S 1)) (k1 : bEw (bFin pf cf L nc (nI 1)).2.1 (fun m => gEd ((bFin pf cf L nc (nI 1)).2.1 m) L nc) (S 1) (E 1) el1) (b0 : b9 (bFin pf cf L nc (nI 0)) (nI 0) nc 0 (S 0) sf fr bf) (e0 : E 0 = bEc (fun m => gEd ((bFin pf cf L nc (nI 0)).2.1 m) L nc) (S 0)) (k0 : bEw (bFin pf cf L nc (nI 0)).2.1 (fun m => gEd ((bFin pf cf L nc (nI 0)).2.1 m) L nc) (S 0) (E 0) el0) (h : gMr (gNo (fun k9 => gTo sf 1 (el1 k9)) (fun k9 => gTo sf 0 (el0 k9)) (E 0)) (E 1) x z) : rMo pf cf L nc ld x z := by
  have h9 : gMr (gNo (fun k => (bFin pf cf L nc (nI 1)).2.1 (el1 k)) (fun k => (bFin pf cf L nc (nI 0)).2.1 (el0 k)) (E 0)) (E 1) x z := gMr_c h (fun k hk => gNo_c (fun i hi => b9_13 b1 (el1 k) (k1.1 k hk).1 i hi) (fun j hj i hi => b9_13 b0 (el0 j) (k0.1 j hj).1 i hi))
  rw [e1, e0] at h9
  rw [e1] at k1
  rw [e0] at k0
  rw [← b1.2.1] at k1 h9
  rw [← b0.2.1] at k0 h9
  exact Or.inr ⟨hl, Or.inr ⟨w1, w0, el1, el0, k1, k0, h9⟩⟩
