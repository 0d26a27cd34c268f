
/-- how many of the first n INS at b are a STORE -/
def gCn9 (kd : Nat → Int32) (b : Nat) : Nat → Nat
  | 0 => 0
  | n + 1 => gCn9 kd b n + (if kd (b + n) = 1 then 1 else 0)
theorem gCn_mono {kd : Nat → Int32} {b : Nat} : ∀ {n m : Nat}, n ≤ m → gCn9 kd b n ≤ gCn9 kd b m := by
  intro n m h
  induction m with
  | zero => rw [Nat.le_zero.mp h]; exact Nat.le_refl _
  | succ m ih =>
    by_cases e : n = m + 1
    · subst e; exact Nat.le_refl _
    · exact Nat.le_trans (ih (by omega)) (Nat.le_add_right _ _)
theorem gCn_st {kd : Nat → Int32} {b n : Nat} (h : kd (b + n) = 1) : gCn9 kd b (n + 1) = gCn9 kd b n + 1 := by
  show gCn9 kd b n + (if kd (b + n) = 1 then 1 else 0) = _
  rw [if_pos h]
theorem gCn_ext {kd kd' : Nat → Int32} {b : Nat} : ∀ {n : Nat}, (∀ j, j < n → kd' (b + j) = kd (b + j)) → gCn9 kd' b n = gCn9 kd b n := by
  intro n
  induction n with
  | zero => intro _; rfl
  | succ n ih =>
    intro h
    show gCn9 kd' b n + (if kd' (b + n) = 1 then 1 else 0) = gCn9 kd b n + (if kd (b + n) = 1 then 1 else 0)
    rw [ih (fun j hj => h j (by omega)), h n (by omega)]
theorem gCn_le {kd : Nat → Int32} {b : Nat} : ∀ {n : Nat}, gCn9 kd b n ≤ n := by
  intro n
  induction n with
  | zero => exact Nat.le_refl _
  | succ n ih =>
    show gCn9 kd b n + (if kd (b + n) = 1 then 1 else 0) ≤ n + 1
    split <;> omega
/-- a STATE of the program pr: rows no longer than the STORES that came before, and d steps from the first -/
def gS9 (kd : Nat → Int32) (Mn : Nat → Nat) (pr : Nat) (w : Nat → Int32) (d : Nat) : Prop := ∃ nx rz : Nat → Nat, gW9 w nx rz ∧ (∀ k, k < 3 → rz k ≤ gCn9 kd (36 * pr + 12 * k) (min (nx k) (Mn ((3 * pr) + k)))) ∧ d + rz 0 + rz 1 + rz 2 ≤ 2 * (min (nx 0) (Mn ((3 * pr) + 0)) + min (nx 1) (Mn ((3 * pr) + 1)) + min (nx 2) (Mn ((3 * pr) + 2)))
theorem gW9_ext {w w' : Nat → Int32} {nx rz : Nat → Nat} (h : gW9 w nx rz) (e : ∀ j, j < 58 → w' j = w j) : gW9 w' nx rz := by
  intro k hk
  obtain ⟨h1, h2, h3, h4, h5⟩ := h k hk
  refine ⟨(e k (by omega)).trans h1, (e _ (by omega)).trans h2, h3, h4, fun i hi => ?_⟩
  obtain ⟨x, a, b⟩ := h5 i hi
  exact ⟨x, a, (e _ (by omega)).trans b⟩
theorem gS9_ext {kd : Nat → Int32} {Mn : Nat → Nat} {pr d : Nat} {w w' : Nat → Int32} (h : gS9 kd Mn pr w d) (e : ∀ j, j < 58 → w' j = w j) : gS9 kd Mn pr w' d := by
  obtain ⟨nx, rz, h1, h2⟩ := h
  exact ⟨nx, rz, gW9_ext h1 e, h2⟩
theorem gS9_first {kd : Nat → Int32} {Mn : Nat → Nat} {pr : Nat} {w : Nat → Int32} (h : ∀ j, j < 58 → (j < 12 ∨ 16 ≤ j) → w j = 0) : gS9 kd Mn pr w 0 := by
  refine ⟨fun _ => 0, fun _ => 0, fun k hk => ⟨h k (by omega) (by omega), h _ (by omega) (by omega), Nat.zero_le _, Nat.zero_le _, fun i hi => absurd hi (Nat.not_lt_zero i)⟩, fun k hk => Nat.zero_le _, ?_⟩
  show 0 + 0 + 0 + 0 ≤ _
  omega
theorem gS9_G {kd : Nat → Int32} {Mn nx rz : Nat → Nat} {pr d k : Nat} {w9 : Nat → Int32} (hR : ∀ k, k < 3 → rz k ≤ gCn9 kd (36 * pr + 12 * k) (min (nx k) (Mn ((3 * pr) + k)))) (hD : d + rz 0 + rz 1 + rz 2 ≤ 2 * (min (nx 0) (Mn ((3 * pr) + 0)) + min (nx 1) (Mn ((3 * pr) + 1)) + min (nx 2) (Mn ((3 * pr) + 2)))) (hG : gW9 w9 nx (updN rz k (rz k - 1))) (hz : 0 < rz k) (hk : k < 3) : gS9 kd Mn pr w9 (d + 1) := by
  refine ⟨nx, updN rz k (rz k - 1), hG, fun j hj => ?_, ?_⟩
  · by_cases e : j = k
    · subst e; rw [updN_s]; exact Nat.le_trans (Nat.sub_le _ _) (hR j hj)
    · rw [updN_n e]; exact hR j hj
  · rcases (show k = 0 ∨ k = 1 ∨ k = 2 by omega) with e | e | e
    · subst e; rw [updN_s, updN_n (by decide), updN_n (by decide)]; omega
    · subst e; rw [updN_s, updN_n (by decide), updN_n (by decide)]; omega
    · subst e; rw [updN_s, updN_n (by decide), updN_n (by decide)]; omega
theorem gS9_K {kd : Nat → Int32} {Mn nx rz nx9 rz9 : Nat → Nat} {pr d k q : Nat} {mode : Int32} {w9 : Nat → Int32} (hR : ∀ k, k < 3 → rz k ≤ gCn9 kd (36 * pr + 12 * k) (min (nx k) (Mn ((3 * pr) + k)))) (hD : d + rz 0 + rz 1 + rz 2 ≤ 2 * (min (nx 0) (Mn ((3 * pr) + 0)) + min (nx 1) (Mn ((3 * pr) + 1)) + min (nx 2) (Mn ((3 * pr) + 2)))) (hG : gW9 w9 nx9 rz9) (h1 : ∃ d, d ≤ 11 ∧ nx9 = updN nx k (nx k + 1 + d)) (h2 : rz9 = rz ∨ (q = 1 ∧ ¬ mode = 0 ∧ rz9 = updN rz k (rz k + 1))) (hz : nx k < Mn ((3 * pr) + k)) (hk : k < 3) (hq : kd (36 * pr + 12 * k + nx k) = nI q) : gS9 kd Mn pr w9 (d + 1) := by
  obtain ⟨u, hu, rfl⟩ := h1
  have hm0 : min (nx k) (Mn ((3 * pr) + k)) = nx k := Nat.min_eq_left (by omega)
  have hRk := hR k hk
  rw [hm0] at hRk
  have hle : nx k + 1 ≤ min (nx k + 1 + u) (Mn ((3 * pr) + k)) := by omega
  have hup := gCn_mono (kd := kd) (b := 36 * pr + 12 * k) hle
  have hst : gCn9 kd (36 * pr + 12 * k) (nx k) ≤ gCn9 kd (36 * pr + 12 * k) (nx k + 1) := gCn_mono (Nat.le_succ _)
  refine ⟨_, rz9, hG, fun j hj => ?_, ?_⟩
  · by_cases e : j = k
    · subst e
      rw [updN_s]
      rcases h2 with h2 | ⟨h2, _, h3⟩
      · subst h2; omega
      · subst h3; subst h2
        rw [updN_s]
        have := gCn_st (kd := kd) (b := 36 * pr + 12 * j) (n := nx j) hq
        omega
    · rw [updN_n e]
      rcases h2 with h2 | ⟨_, _, h3⟩
      · subst h2; exact hR j hj
      · subst h3; rw [updN_n e]; exact hR j hj
  · have hr0 : rz9 0 + rz9 1 + rz9 2 ≤ rz 0 + rz 1 + rz 2 + 1 := by
      rcases h2 with h2 | ⟨_, _, h3⟩
      · subst h2; omega
      · subst h3
        rcases (show k = 0 ∨ k = 1 ∨ k = 2 by omega) with e | e | e
        · subst e; rw [updN_s, updN_n (by decide), updN_n (by decide)]; omega
        · subst e; rw [updN_s, updN_n (by decide), updN_n (by decide)]; omega
        · subst e; rw [updN_s, updN_n (by decide), updN_n (by decide)]; omega
    rcases (show k = 0 ∨ k = 1 ∨ k = 2 by omega) with e | e | e
    · subst e; rw [updN_s, updN_n (by decide), updN_n (by decide)]; omega
    · subst e; rw [updN_s, updN_n (by decide), updN_n (by decide)]; omega
    · subst e; rw [updN_s, updN_n (by decide), updN_n (by decide)]; omega
theorem gCn_lt {kd : Nat → Int32} {Mn nx rz : Nat → Nat} {pr k q : Nat} (hR : ∀ k, k < 3 → rz k ≤ gCn9 kd (36 * pr + 12 * k) (min (nx k) (Mn ((3 * pr) + k)))) (hz : nx k < Mn ((3 * pr) + k)) (hc : gCn9 kd (36 * pr + 12 * k) (Mn ((3 * pr) + k)) ≤ 6) (hq : kd (36 * pr + 12 * k + nx k) = nI q) (e : q = 1) (hk : k < 3) : rz k < 6 := by
  subst e
  have h1 := hR k hk
  rw [Nat.min_eq_left (by omega)] at h1
  have h2 := gCn_st (kd := kd) (b := 36 * pr + 12 * k) (n := nx k) hq
  have h3 := gCn_mono (kd := kd) (b := 36 * pr + 12 * k) (show nx k + 1 ≤ Mn ((3 * pr) + k) by omega)
  omega
/-- a core of m INS at b is good -/
def gPk (kd cl rg u1 u2 sk : Nat → Int32) (b m : Nat) : Prop := m ≤ 12 ∧ gCn9 kd b m ≤ 6 ∧ ∀ i, i < m → ∃ q, q ≤ 8 ∧ kd (b + i) = nI q ∧ gI9 q cl rg u1 u2 (b + i) ∧ (q = 8 → ∃ y, y ≤ 11 ∧ sk (b + i) = nI y ∧ i + 1 + y ≤ m)
/-- the program in slot pr is good -/
def gP9 (C Mn : Nat → Nat) (kd cl rg u1 u2 sk : Nat → Int32) (pr : Nat) : Prop := ∀ k, k < C pr → k < 3 → gPk kd cl rg u1 u2 sk ((36 * pr) + (12 * k)) (Mn ((3 * pr) + k))
def gQ0 (kd : Nat → Int32) (Mn : Nat → Nat) (pr s n : Nat) (sf fr nf hf : Nat → Int32) (Dp : Nat → Nat) : Prop := (∀ j, j < 4096 → ∃ m, m ≤ n ∧ hf ((4096 * s) + j) = nI m - 1) ∧ (∀ m, m < n → ∃ q, q ≤ m ∧ nf ((3000 * s) + m) = nI q - 1) ∧ (∀ m, m < n → gS9 kd Mn pr (fun j => sf ((((3000 * s) + m) * 58) + j)) (Dp m)) ∧ gFr fr (3000 * s) n Dp
def gQ9 (kd : Nat → Int32) (Mn : Nat → Nat) (pr s n : Nat) (sf fr nf hf : Nat → Int32) : Prop := ∃ Dp : Nat → Nat, gQ0 kd Mn pr s n sf fr nf hf Dp
theorem gQ0_0 {kd : Nat → Int32} {Mn : Nat → Nat} {pr s n : Nat} {sf fr nf hf : Nat → Int32} (h : ∀ j, j < 4096 → hf ((4096 * s) + j) = (-1)) (hn : n = 0) : gQ0 kd Mn pr s n sf fr nf hf (fun _ => 0) := by
  subst hn
  exact ⟨fun j hj => ⟨0, Nat.le_refl _, (h j hj).trans (by decide)⟩, fun m h => absurd h (Nat.not_lt_zero m), fun m h => absurd h (Nat.not_lt_zero m), fun m h => absurd h (Nat.not_lt_zero m)⟩
theorem gQ_co {kd : Nat → Int32} {Mn S S9 : Nat → Nat} {pr s d : Nat} {sf sf9 fr fr9 nf nf9 hf hf9 nw : Nat → Int32} {z x : Int32} {Dp : Nat → Nat} (h : gQ0 kd Mn pr s (S s) sf fr nf hf Dp) (hc : gCo z S S9 sf sf9 fr fr9 nf nf9 hf hf9 nw s x) (hw : gS9 kd Mn pr nw d) (hx : x = (-1) ∨ ∃ q, q < S s ∧ x = nI q ∧ Dp q + 1 ≤ d) : gQ9 kd Mn pr s (S9 s) sf9 fr9 nf9 hf9 := by
  rcases hc with ⟨_, rfl, rfl, rfl, rfl, rfl⟩ | ⟨_, h1, rfl, h2, rfl, t, h3, rfl, rfl⟩
  · exact ⟨Dp, h⟩
  · obtain ⟨q1, q2, q3, q4⟩ := h
    refine ⟨updN Dp (S s) d, ?_, ?_, ?_, ?_⟩
    · intro j hj
      rw [updN_s]
      by_cases e : j = t
      · subst e; exact ⟨S s + 1, Nat.le_refl _, by rw [pk_us]; exact (pk_sub (a := S s + 1) (b := 1) (by omega)).symm⟩
      · rw [pk_un (by omega)]
        obtain ⟨m, a, b⟩ := q1 j hj
        exact ⟨m, by omega, b⟩
    · intro m hm
      rw [updN_s] at hm
      by_cases e : m = S s
      · subst e
        obtain ⟨u, a, b⟩ := q1 t h3
        exact ⟨u, a, by rw [pk_us]; exact b⟩
      · rw [pk_un (by omega)]; exact q2 m (by omega)
    · intro m hm
      rw [updN_s] at hm
      by_cases e : m = S s
      · subst e
        rw [updN_s]
        exact gS9_ext hw (fun j hj => h2.1 j hj)
      · rw [updN_n e]
        exact gS9_ext (q3 m (by omega)) (fun j hj => h2.2 _ (by omega))
    · intro m hm
      rw [updN_s] at hm
      by_cases e : m = S s
      · subst e
        rw [pk_us, updN_s]
        rcases hx with hx | ⟨q, a, b, c⟩
        · exact Or.inl hx
        · exact Or.inr ⟨q, a, b, by rw [updN_n (by omega)]; exact c⟩
      · rw [pk_un (by omega), updN_n e]
        rcases q4 m (by omega) with a | ⟨q, a, b, c⟩
        · exact Or.inl a
        · exact Or.inr ⟨q, a, b, by rw [updN_n (by omega)]; exact c⟩
theorem gCo_fm {z : Int32} {S S9 : Nat → Nat} {sf sf9 f0 fr fr9 nf nf9 hf hf9 nw : Nat → Int32} {s : Nat} {x : Int32} (h : gFm fr f0 (3000 * s) 3000) (hc : gCo z S S9 sf sf9 fr fr9 nf nf9 hf hf9 nw s x) : gFm fr9 f0 (3000 * s) 3000 := by
  rcases hc with ⟨_, _, _, rfl, _⟩ | ⟨_, h1, _, _, rfl, _⟩
  · exact h
  · exact gFm_u h (by omega) (by omega)
theorem gy_fillb {g : Nat → Int32} {b i : Nat} {x : Int32} (h : ∀ j, j < i → g (b + j) = x) : ∀ j, j < i + 1 → upd g (b + i) x (b + j) = x := by
  intro j hj
  by_cases e : j = i
  · subst e; exact pk_us
  · rw [pk_un (by omega)]; exact h j (by omega)
/-- what an explored slot keeps -/
def gT9 (t : Nat) (S E : Nat → Nat) (fr en : Nat → Int32) : Prop := S t ≤ 3000 ∧ E t ≤ S t ∧ (∃ Dp, gFr fr (3000 * t) (S t) Dp) ∧ gEz en (3000 * t) (E t) (S t)
theorem gT9_fr {t s : Nat} {S E S9 E9 : Nat → Nat} {fr en fr9 en9 : Nat → Int32} (hS : ∀ j, j ≠ s → S9 j = S j) (hE : ∀ j, j ≠ s → E9 j = E j) (hf : gFm fr9 fr (3000 * s) 3000) (he : gFm en9 en (3000 * s) 3000) (ht : t ≠ s) (h : gT9 t S E fr en) : gT9 t S9 E9 fr9 en9 := by
  obtain ⟨h1, h2, ⟨Dp, h3⟩, h4⟩ := h
  refine ⟨by rw [hS t ht]; exact h1, by rw [hS t ht, hE t ht]; exact h2, ⟨Dp, fun m hm => ?_⟩, fun i hi => ?_⟩
  · rw [hS t ht] at hm
    rw [hf _ (by omega)]
    exact h3 m hm
  · rw [hE t ht] at hi
    rw [hS t ht, he _ (by omega)]
    exact h4 i hi
def gA9 (t : Nat) (df : Nat → Int32) (S E : Nat → Nat) (fr en : Nat → Int32) : Prop := df t = 0 ∨ gT9 t S E fr en
