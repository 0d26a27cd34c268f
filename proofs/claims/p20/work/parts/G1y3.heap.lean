
/-! the reference's sort of its ends -/
def gLq (R : Nat → Nat → Int32) (a b : Nat) : Prop := ¬ gOl (R b) (R a)
section HPP
variable {R : Nat → Nat → Int32} {A B : Nat → Nat} {n k c s v i j : Nat}
theorem gLq_r : gLq R i i := gOl_ir
theorem gLq_t {a b d : Nat} (h1 : gLq R a b) (h2 : gLq R b d) : gLq R a d := fun l => h1 (by
  rcases gOl_to (f := R b) (g := R d) 13 (Nat.le_refl _) with q | q | q
  · obtain ⟨t, ht, e, w⟩ := l
    exact ⟨t, ht, fun j hj => (q j (by omega)).trans (e j hj), by rw [q t ht]; exact w⟩
  · exact gOl_tr q l
  · exact absurd q h2)
/-- B holds on [0, n) what A held, each once -/
def gRa (B A : Nat → Nat) (n : Nat) : Prop := (∀ i, i < n → ∃ j, j < n ∧ B i = A j) ∧ (∀ j, j < n → ∃ i, i < n ∧ B i = A j) ∧ ∀ i j, i < j → j < n → B i ≠ B j
theorem gRa_r (h : ∀ i j, i < j → j < n → A i ≠ A j) : gRa A A n := ⟨fun i hi => ⟨i, hi, rfl⟩, fun j hj => ⟨j, hj, rfl⟩, h⟩
theorem gRa_s (h : gRa B A n) (hk : k < n) (hc : c < n) (ne : k ≠ c) : gRa (updN (updN B k (B c)) c (B k)) A n := by
  obtain ⟨a, b, d⟩ := h
  have e : ∀ i, updN (updN B k (B c)) c (B k) i = if i = c then B k else if i = k then B c else B i := by
    intro i
    by_cases q : i = c
    · rw [if_pos q, q, updN_s]
    · rw [if_neg q, updN_n q]
      by_cases p : i = k
      · rw [if_pos p, p, updN_s]
      · rw [if_neg p, updN_n p]
  have dn : ∀ i j, i < n → j < n → i ≠ j → B i ≠ B j := by
    intro i j hi hj hij
    rcases Nat.lt_or_gt_of_ne hij with q | q
    · exact d i j q hj
    · exact fun w => d j i q hi w.symm
  refine ⟨fun i hi => ?_, fun j hj => ?_, fun i j hij hj => ?_⟩
  · rw [e i]
    by_cases q : i = c
    · rw [if_pos q]; exact a k hk
    · rw [if_neg q]
      by_cases p : i = k
      · rw [if_pos p]; exact a c hc
      · rw [if_neg p]; exact a i hi
  · obtain ⟨i, hi, ei⟩ := b j hj
    by_cases q : i = c
    · exact ⟨k, hk, by rw [e k, if_neg ne, if_pos rfl, ← q]; exact ei⟩
    · by_cases p : i = k
      · exact ⟨c, hc, by rw [e c, if_pos rfl, ← p]; exact ei⟩
      · exact ⟨i, hi, by rw [e i, if_neg q, if_neg p]; exact ei⟩
  · rw [e i, e j]
    by_cases q : i = c
    · rw [if_pos q]
      by_cases q2 : j = c
      · omega
      · rw [if_neg q2]
        by_cases p2 : j = k
        · rw [if_pos p2]; exact dn k c hk hc ne
        · rw [if_neg p2]; exact dn k j hk hj (by omega)
    · rw [if_neg q]
      by_cases p : i = k
      · rw [if_pos p]
        by_cases q2 : j = c
        · rw [if_pos q2]; exact dn c k hc hk (by omega)
        · rw [if_neg q2, if_neg (by omega)]; exact dn c j hc hj (by omega)
      · rw [if_neg p]
        by_cases q2 : j = c
        · rw [if_pos q2]; exact dn i k (by omega) hk p
        · rw [if_neg q2]
          by_cases p2 : j = k
          · rw [if_pos p2]; exact dn i c (by omega) hc q
          · rw [if_neg p2]; exact dn i j (by omega) hj (by omega)
end HPP
/-- from s on each is at least its children -/
def gHe (R : Nat → Nat → Int32) (A : Nat → Nat) (s n : Nat) : Prop := ∀ i c, s ≤ i → (c = 2 * i + 1 ∨ c = 2 * i + 2) → c < n → gLq R (A c) (A i)
/-- the same but at k, where a smaller one may stand -/
def gSq (R : Nat → Nat → Int32) (B : Nat → Nat) (s n k : Nat) : Prop := s ≤ k ∧ (∀ i c, s ≤ i → i ≠ k → (c = 2 * i + 1 ∨ c = 2 * i + 2) → c < n → gLq R (B c) (B i)) ∧ ∀ p c, s ≤ p → (k = 2 * p + 1 ∨ k = 2 * p + 2) → (c = 2 * k + 1 ∨ c = 2 * k + 2) → c < n → gLq R (B c) (B p)
section HQQ
variable {R : Nat → Nat → Int32} {A B : Nat → Nat} {n k c s i j : Nat}
theorem gSq_0 (h : gHe R A (s + 1) n) : gSq R A s n s := ⟨Nat.le_refl _, fun i c a b d e => h i c (by omega) d e, fun p c a b => absurd b (by omega)⟩
theorem gSq_s (h : gSq R B s n k) (hc : c = 2 * k + 1 ∨ c = 2 * k + 2) (hn : c < n) (hm : ∀ d, (d = 2 * k + 1 ∨ d = 2 * k + 2) → d < n → gLq R (B d) (B c)) (hl : gLq R (B k) (B c)) : gSq R (updN (updN B k (B c)) c (B k)) s n c := by
  obtain ⟨h0, h1, h2⟩ := h
  have ek : updN (updN B k (B c)) c (B k) k = B c := by rw [updN_n (by omega), updN_s]
  have ec : updN (updN B k (B c)) c (B k) c = B k := updN_s
  have eo : ∀ t, t ≠ k → t ≠ c → updN (updN B k (B c)) c (B k) t = B t := fun t a b => by rw [updN_n b, updN_n a]
  refine ⟨by omega, fun i d a b e f => ?_, fun p d a b e f => ?_⟩
  · by_cases q : i = k
    · rw [q, ek]
      by_cases r : d = c
      · rw [r, ec]; exact hl
      · rw [eo d (by omega) r]
        exact hm d (by omega) f
    · rw [eo i q b]
      by_cases r : d = k
      · rw [r, ek]
        exact h2 i c a (by omega) hc hn
      · rw [eo d r (by omega)]
        exact h1 i d a q e f
  · have q : p = k := by omega
    rw [q, ek, eo d (by omega) (by omega)]
    exact h1 c d (by omega) (by omega) e f
theorem gSq_e (h : gSq R B s n k) (hm : ∀ d, (d = 2 * k + 1 ∨ d = 2 * k + 2) → d < n → gLq R (B d) (B k)) : gHe R B s n := by
  intro i c a b d
  by_cases q : i = k
  · rw [q] at b ⊢
    exact hm c b d
  · exact h.2.1 i c a q b d
theorem gHe_max (h : gHe R A 0 n) : ∀ i, i < n → gLq R (A i) (A 0) := by
  intro i
  induction i using Nat.strongRecOn with
  | ind i ih =>
    intro hi
    by_cases q : i = 0
    · rw [q]; exact gLq_r
    · exact gLq_t (h ((i - 1) / 2) i (Nat.zero_le _) (by omega) hi) (ih ((i - 1) / 2) (by omega) (by omega))
end HQQ
/-- what compare answers -/
def gCq (z : Int32) (f g : Nat → Int32) : Prop := (z = 0 ∧ ∀ j, j < 13 → f j = g j) ∨ (z = (-1) ∧ gOl f g) ∨ (z = 1 ∧ gOl g f)
section CQQ
variable {R : Nat → Nat → Int32} {f g : Nat → Int32} {i a b : Nat} {x y z : Int32}
theorem gCq_l (hi : i < 13) (h : ∀ j, j < i → f j = g j) (ex : x = f i) (ey : y = g i) (hl : ¬ y ≤ x) : gCq (-1) f g := Or.inr (Or.inl ⟨rfl, i, hi, h, by rw [← ex, ← ey]; exact Int32.not_le.mp hl⟩)
theorem gCq_g (hi : i < 13) (h : ∀ j, j < i → f j = g j) (ex : x = f i) (ey : y = g i) (ne : ¬ x = y) (hg : y ≤ x) : gCq 1 f g := Or.inr (Or.inr ⟨rfl, i, hi, fun j hj => (h j hj).symm, by rw [← ex, ← ey]; exact Int32.lt_of_le_of_ne hg (fun q => ne q.symm)⟩)
theorem gCq_e (h : ∀ j, j < 13 → f j = g j) : gCq 0 f g := Or.inl ⟨rfl, h⟩
theorem gCq_le (h : gCq z (R a) (R b)) (hz : z ≤ 0) : gLq R a b := by
  intro l
  rcases h with ⟨_, e⟩ | ⟨_, e⟩ | ⟨e, _⟩
  · exact gOl_eq (fun j hj => (e j hj).symm) l
  · exact gOl_as e l
  · rw [e] at hz
    exact absurd hz (by decide)
theorem gCq_gt (h : gCq z (R a) (R b)) (hz : ¬ z ≤ 0) : gLq R b a := by
  intro l
  rcases h with ⟨e, _⟩ | ⟨e, _⟩ | ⟨_, e⟩
  · rw [e] at hz
    exact hz (by decide)
  · rw [e] at hz
    exact hz (by decide)
  · exact gOl_as e l
end CQQ
/-- D below k, B from there on -/
def gMg (D B : Nat → Nat) (k : Nat) : Nat → Nat := fun i => if i < k then D i else B i
section RAA
variable {A B D : Nat → Nat} {n k : Nat}
theorem gMg_a {i : Nat} (h : i < k) : gMg D B k i = D i := if_pos h
theorem gMg_b {i : Nat} (h : ¬ i < k) : gMg D B k i = B i := if_neg h
theorem gRa_t (h1 : gRa D B n) (h2 : gRa B A n) : gRa D A n := by
  refine ⟨fun i hi => ?_, fun j hj => ?_, h1.2.2⟩
  · obtain ⟨j, hj, e⟩ := h1.1 i hi
    obtain ⟨t, ht, e2⟩ := h2.1 j hj
    exact ⟨t, ht, e.trans e2⟩
  · obtain ⟨i, hi, e⟩ := h2.2.1 j hj
    obtain ⟨t, ht, e2⟩ := h1.2.1 i hi
    exact ⟨t, ht, e2.trans e⟩
theorem gRa_x (h : gRa D B k) (hk : k ≤ n) (hd : ∀ i j, i < j → j < n → B i ≠ B j) : gRa (gMg D B k) B n := by
  have e1 : ∀ i, i < k → gMg D B k i = D i := fun i hi => gMg_a hi
  have e2 : ∀ i, ¬ i < k → gMg D B k i = B i := fun i hi => gMg_b hi
  refine ⟨fun i hi => ?_, fun j hj => ?_, fun i j hij hj => ?_⟩
  · by_cases q : i < k
    · obtain ⟨j, hj, e⟩ := h.1 i q
      exact ⟨j, by omega, (e1 i q).trans e⟩
    · exact ⟨i, hi, e2 i q⟩
  · by_cases q : j < k
    · obtain ⟨i, hi, e⟩ := h.2.1 j q
      exact ⟨i, by omega, (e1 i hi).trans e⟩
    · exact ⟨j, hj, e2 j q⟩
  · by_cases q : j < k
    · rw [e1 i (by omega), e1 j q]
      exact h.2.2 i j hij q
    · rw [e2 j q]
      by_cases p : i < k
      · rw [e1 i p]
        obtain ⟨t, ht, e⟩ := h.1 i p
        rw [e]
        exact hd t j (by omega) hj
      · rw [e2 i p]
        exact hd i j hij hj
end RAA
/-- a sink under way: x0 is to stand at k -/
def gSi (R : Nat → Nat → Int32) (A B : Nat → Nat) (g : Nat → Int32) (b n st k zz x0 : Nat) : Prop := gRa B A n ∧ B k = x0 ∧ (∀ i, i < n → i ≠ k → g (b + i) = nI (B i)) ∧ gSq R B st n k ∧ (zz = 0 → ∀ d, (d = 2 * k + 1 ∨ d = 2 * k + 2) → d < n → gLq R (B d) (B k))
/-- the ends of a slot after a sink -/
def gSo (R : Nat → Nat → Int32) (A : Nat → Nat) (g : Nat → Int32) (b n st : Nat) : Prop := ∃ B : Nat → Nat, gRa B A n ∧ (∀ i, i < n → g (b + i) = nI (B i)) ∧ gHe R B st n
section SII
variable {R : Nat → Nat → Int32} {A B : Nat → Nat} {g en : Nat → Int32} {b n st k zz zz9 x0 x c i a : Nat}
theorem gSi_0 (hA : ∀ i, i < n → en (b + i) = nI (A i)) (hd : ∀ i j, i < j → j < n → A i ≠ A j) (hH : gHe R A (st + 1) n) (hx : x0 = A st) (hz : zz = 0 → n ≤ 2 * st + 1) : gSi R A A en b n st st zz x0 := ⟨gRa_r hd, hx.symm, fun i hi _ => hA i hi, gSq_0 hH, fun h d hc hn => by have := hz h; omega⟩
theorem gSi_x (h : gSi R A B g b n st k zz x0) (hi : i < n) (ne : i ≠ k) (e : g (b + i) = nI x) (hx : x < 3000) (hB : ∀ j, j < n → A j < 3000) : x = B i := by
  obtain ⟨j, hj, ej⟩ := h.1.1 i hi
  have := hB j hj
  exact (nI_eq (by omega) (by omega)).mp (e.symm.trans (h.2.2.1 i hi ne))
theorem gSi_k (h : gSi R A B g b n st k zz x0) (hm : ∀ d, (d = 2 * k + 1 ∨ d = 2 * k + 2) → d < n → gLq R (B d) (B c)) (hc : gLq R (B c) (B k)) : gSi R A B g b n st k 0 x0 := ⟨h.1, h.2.1, h.2.2.1, h.2.2.2.1, fun _ d hd hn => gLq_t (hm d hd hn) hc⟩
theorem gSi_m (h : gSi R A B g b n st k zz x0) (hk : k < n) (hc : c = 2 * k + 1 ∨ c = 2 * k + 2) (hn : c < n) (hm : ∀ d, (d = 2 * k + 1 ∨ d = 2 * k + 2) → d < n → gLq R (B d) (B c)) (hl : gLq R (B k) (B c)) (hz : zz9 = 0 → n ≤ 2 * c + 1) (ea : a = b + k) (ex : x = B c) : gSi R A (updN (updN B k (B c)) c (B k)) (upd g a (nI x)) b n st c zz9 x0 := by
  obtain ⟨h1, h2, h3, h4, _⟩ := h
  subst ea; subst ex
  refine ⟨gRa_s h1 hk hn (by omega), by rw [updN_s]; exact h2, fun i hi ne => ?_, gSq_s h4 hc hn hm hl, fun q d hd hn => by have := hz q; omega⟩
  rw [updN_n ne]
  by_cases q : i = k
  · subst q
    rw [pk_us, updN_s]
  · rw [pk_un (by omega), updN_n q]
    exact h3 i hi q
theorem gSi_e (h : gSi R A B g b n st k 0 x0) (ea : a = b + k) : gSo R A (upd g a (nI x0)) b n st := by
  obtain ⟨h1, h2, h3, h4, h5⟩ := h
  subst ea
  refine ⟨B, h1, fun i hi => ?_, gSq_e h4 (h5 rfl)⟩
  by_cases q : i = k
  · subst q
    rw [pk_us, h2]
  · rw [pk_un (by omega)]
    exact h3 i hi q
end SII
theorem gMx_a {R : Nat → Nat → Int32} {B : Nat → Nat} {k n c : Nat} (hc : c = 2 * k + 1) (hn : n ≤ 2 * k + 2) : ∀ d, (d = 2 * k + 1 ∨ d = 2 * k + 2) → d < n → gLq R (B d) (B c) := fun d h h2 => by
  obtain rfl : d = c := by omega
  exact gLq_r
theorem gMx_b {R : Nat → Nat → Int32} {B : Nat → Nat} {k n c : Nat} (hc : c = 2 * k + 1) (h : gLq R (B (2 * k + 2)) (B (2 * k + 1))) : ∀ d, (d = 2 * k + 1 ∨ d = 2 * k + 2) → d < n → gLq R (B d) (B c) := fun d h1 h2 => by
  subst hc
  rcases h1 with e | e <;> subst e
  · exact gLq_r
  · exact h
theorem gMx_c {R : Nat → Nat → Int32} {B : Nat → Nat} {k n c : Nat} (hc : c = 2 * k + 2) (h : gLq R (B (2 * k + 1)) (B (2 * k + 2))) : ∀ d, (d = 2 * k + 1 ∨ d = 2 * k + 2) → d < n → gLq R (B d) (B c) := fun d h1 h2 => by
  subst hc
  rcases h1 with e | e <;> subst e
  · exact h
  · exact gLq_r
/-- the heap is being made: from i on -/
def gHb (R : Nat → Nat → Int32) (A B : Nat → Nat) (g : Nat → Int32) (b n i : Nat) : Prop := gRa B A n ∧ (∀ j, j < n → g (b + j) = nI (B j)) ∧ gHe R B i n
/-- the heap is being taken down: from i on all is in order -/
def gHd (R : Nat → Nat → Int32) (A B : Nat → Nat) (g : Nat → Int32) (b n i : Nat) : Prop := gRa B A n ∧ (∀ j, j < n → g (b + j) = nI (B j)) ∧ gHe R B 0 i ∧ ∀ t j, i ≤ j → j < n → t < j → gLq R (B t) (B j)
/-- sorted -/
def gSd (R : Nat → Nat → Int32) (A : Nat → Nat) (g : Nat → Int32) (b n : Nat) : Prop := ∃ B : Nat → Nat, gRa B A n ∧ (∀ j, j < n → g (b + j) = nI (B j)) ∧ ∀ t j, t < j → j < n → gLq R (B t) (B j)
def gHbx (R : Nat → Nat → Int32) (A : Nat → Nat) (g : Nat → Int32) (b n i : Nat) : Prop := ∃ B : Nat → Nat, gHb R A B g b n i
def gHdx (R : Nat → Nat → Int32) (A : Nat → Nat) (g : Nat → Int32) (b n i : Nat) : Prop := ∃ B : Nat → Nat, gHd R A B g b n i
section SRR
variable {R : Nat → Nat → Int32} {A B : Nat → Nat} {g en g9 : Nat → Int32} {b n i x1 x2 : Nat}
theorem gHb_0 (hA : ∀ i, i < n → en (b + i) = nI (A i)) (hd : ∀ i j, i < j → j < n → A i ≠ A j) : gHbx R A en b n (n / 2 + 1) := ⟨A, gRa_r hd, hA, fun i c h1 h2 h3 => by omega⟩
theorem gHb_s (h : gHb R A B g b n i) (h9 : gSo R B g9 b n (i - 1)) : gHbx R A g9 b n (i - 1) := by
  obtain ⟨D, d1, d2, d3⟩ := h9
  exact ⟨D, gRa_t d1 h.1, d2, d3⟩
theorem gHd_0 (h : gHbx R A g b n i) (hi : i = 0 ∨ n = 0) : gHdx R A g b n n := by
  obtain ⟨B, h1, h2, h3⟩ := h
  refine ⟨B, h1, h2, ?_, fun t j a b => absurd b (by omega)⟩
  rcases hi with e | e
  · subst e; exact h3
  · subst e; exact fun i c _ _ h => absurd h (Nat.not_lt_zero c)
/-- the swap ahead of the next sink -/
def gSw (B : Nat → Nat) (i : Nat) : Nat → Nat := updN (updN B (i - 1) (B 0)) 0 (B (i - 1))
theorem gSw_0 : gSw B i 0 = B (i - 1) := updN_s
theorem gSw_i (h : 2 ≤ i) : gSw B i (i - 1) = B 0 := by
  unfold gSw
  rw [updN_n (by omega), updN_s]
theorem gSw_n {j : Nat} (h0 : j ≠ 0) (h1 : j ≠ i - 1) : gSw B i j = B j := by
  unfold gSw
  rw [updN_n h0, updN_n h1]
theorem gSw_A (h : gHd R A B g b n i) (hi : 2 ≤ i) (hn : i ≤ n) (e1 : g (b + (i - 1)) = nI x1) (e2 : g b = nI x2) : ∀ j, j < n → upd (upd g (b + (i - 1)) (nI x2)) b (nI x1) (b + j) = nI (gSw B i j) := by
  intro j hj
  by_cases q0 : j = 0
  · subst q0
    rw [show b + 0 = b by omega, pk_us, gSw_0, ← e1]
    exact h.2.1 (i - 1) (by omega)
  · rw [pk_un (by omega)]
    by_cases q1 : j = i - 1
    · subst q1
      rw [pk_us, gSw_i hi, ← e2, show b = b + 0 by omega]
      exact h.2.1 0 (by omega)
    · rw [pk_un (by omega), gSw_n q0 q1]
      exact h.2.1 j hj
theorem gSw_r (h : gRa B A n) (hi : 2 ≤ i) (hn : i ≤ n) : gRa (gSw B i) A n := gRa_s h (by omega) (by omega) (by omega)
theorem gSw_h (h : gHe R B 0 i) (hi : 2 ≤ i) : gHe R (gSw B i) 1 (i - 1) := by
  intro t c a d e
  rw [gSw_n (by omega) (by omega), gSw_n (by omega) (by omega)]
  exact h t c (Nat.zero_le _) d (by omega)
theorem gHd_s {w : Nat → Int32} (h : gHd R A B g b n i) (hi : 2 ≤ i) (hn : i ≤ n) (hA : ∀ j, j < n → w (b + j) = nI (gSw B i j)) (h9 : gSo R (gSw B i) g9 b (i - 1) 0) (hF : ∀ j, i - 1 ≤ j → j < n → g9 (b + j) = w (b + j)) : gHdx R A g9 b n (i - 1) := by
  obtain ⟨h1, h2, h3, h4⟩ := h
  obtain ⟨D, d1, d2, d3⟩ := h9
  have hr := gSw_r h1 hi hn
  have e1 : ∀ j, j < i - 1 → gMg D (gSw B i) (i - 1) j = D j := fun j hj => gMg_a hj
  have e2 : ∀ j, ¬ j < i - 1 → gMg D (gSw B i) (i - 1) j = gSw B i j := fun j hj => gMg_b hj
  have hx := gRa_x d1 (show i - 1 ≤ n by omega) hr.2.2
  have hmax := gHe_max h3
  have src : ∀ j, j < i → ∃ u, u < i ∧ gSw B i j = B u := by
    intro j hj
    by_cases q0 : j = 0
    · exact ⟨i - 1, by omega, by rw [q0, gSw_0]⟩
    · by_cases q1 : j = i - 1
      · exact ⟨0, by omega, by rw [q1, gSw_i hi]⟩
      · exact ⟨j, hj, gSw_n q0 q1⟩
  refine ⟨gMg D (gSw B i) (i - 1), gRa_t hx hr, fun j hj => ?_, fun t c a d e => ?_, fun t j a c d => ?_⟩
  · by_cases q : j < i - 1
    · rw [e1 j q]
      exact d2 j q
    · rw [e2 j q, hF j (by omega) hj]
      exact hA j hj
  · rw [e1 c e, e1 t (by omega)]
    exact d3 t c a d e
  · have key : ∃ u, u < (if j = i - 1 then i else j) ∧ gMg D (gSw B i) (i - 1) t = B u := by
      by_cases q : t < i - 1
      · obtain ⟨u, hu, eu⟩ := d1.1 t q
        obtain ⟨v, hv, ev⟩ := src u (by omega)
        exact ⟨v, by split <;> omega, by rw [e1 t q, eu, ev]⟩
      · by_cases p : t = i - 1
        · exact ⟨0, by split <;> omega, by rw [e2 t q, p, gSw_i hi]⟩
        · exact ⟨t, by split <;> omega, by rw [e2 t q, gSw_n (by omega) p]⟩
    obtain ⟨u, hu, eu⟩ := key
    rw [eu, e2 j (by omega)]
    by_cases q : j = i - 1
    · rw [if_pos q] at hu
      rw [q, gSw_i hi]
      exact hmax u hu
    · rw [if_neg q] at hu
      rw [gSw_n (by omega) q]
      exact h4 u j (by omega) c hu
theorem gSd_e (h : gHdx R A g b n i) (hi : i ≤ 1) : gSd R A g b n := by
  obtain ⟨B, h1, h2, _, h4⟩ := h
  exact ⟨B, h1, h2, fun t j a c => h4 t j (by omega) c a⟩
end SRR
/-- the OUTCOME of the reference's row -/
def gTo (sf : Nat → Int32) (s m : Nat) : Nat → Int32 := fun j => sf (((((3000 * s) + m) * 58) + 3) + j)
def gEl (en : Nat → Int32) (b M n : Nat) (A : Nat → Nat) : Prop := (∀ i, i < M → en (b + i) = nI (A i) ∧ A i < n) ∧ ∀ i j, i < j → j < M → A i ≠ A j
def gEs (E : Nat → Prop) (n M : Nat) (A : Nat → Nat) : Prop := (∀ i, i < M → E (A i)) ∧ ∀ m, m < n → E m → ∃ i, i < M ∧ A i = m
section ELL
variable {E : Nat → Prop} {S : Nat → Nat → Int32} {A : Nat → Nat} {en en9 sf : Nat → Int32} {b M n N s a : Nat}
theorem gEl_0 (h : M = 0) : gEl en b M n A := by
  subst h
  exact ⟨fun i h => absurd h (Nat.not_lt_zero i), fun i j _ h => absurd h (Nat.not_lt_zero j)⟩
theorem gEs_0 (h : M = 0) : gEs E 0 M A := by
  subst h
  exact ⟨fun i h => absurd h (Nat.not_lt_zero i), fun m h => absurd h (Nat.not_lt_zero m)⟩
theorem gEl_k (h : gEl en b M n A) : gEl en b M (n + 1) A := ⟨fun i hi => ⟨(h.1 i hi).1, by have := (h.1 i hi).2; omega⟩, h.2⟩
theorem gEl_s (h : gEl en b M n A) (ha : a = b + M) : gEl (upd en a (nI n)) b (M + 1) (n + 1) (updN A M n) := by
  subst ha
  refine ⟨fun i hi => ?_, fun i j hij hj => ?_⟩
  · by_cases q : i = M
    · subst q
      rw [pk_us, updN_s]
      exact ⟨rfl, by omega⟩
    · rw [pk_un (by omega), updN_n q]
      have := h.1 i (by omega)
      exact ⟨this.1, by omega⟩
  · rw [updN_n (show i ≠ M by omega)]
    by_cases q : j = M
    · rw [q, updN_s]
      have := (h.1 i (by omega)).2
      omega
    · rw [updN_n q]
      exact h.2 i j hij (by omega)
theorem gEs_k (h : gEs E n M A) (hn : ¬ E n) : gEs E (n + 1) M A := ⟨h.1, fun m hm e => by
  by_cases q : m = n
  · rw [q] at e; exact absurd e hn
  · exact h.2 m (by omega) e⟩
theorem gEs_s (h : gEs E n M A) (hn : E n) : gEs E (n + 1) (M + 1) (updN A M n) := by
  refine ⟨fun i hi => ?_, fun m hm e => ?_⟩
  · by_cases q : i = M
    · rw [q, updN_s]; exact hn
    · rw [updN_n q]; exact h.1 i (by omega)
  · by_cases q : m = n
    · exact ⟨M, by omega, by rw [updN_s, q]⟩
    · obtain ⟨i, hi, ei⟩ := h.2 m (by omega) e
      exact ⟨i, by omega, by rw [updN_n (by omega)]; exact ei⟩
theorem gOl_13 {f f' g g' : Nat → Int32} (h1 : ∀ j, j < 13 → f j = f' j) (h2 : ∀ j, j < 13 → g j = g' j) (h : gOl f g) : gOl f' g' := by
  obtain ⟨i, hi, e, l⟩ := h
  exact ⟨i, hi, fun j hj => (h1 j (by omega)).symm.trans ((e j hj).trans (h2 j (by omega))), by rw [← h1 i hi, ← h2 i hi]; exact l⟩
theorem bEx_9 (hT : ∀ m, m < N → ∀ j, j < 13 → gTo sf s m j = S m j) (hl : gEl en b M N A) (hs : gEs E N M A) (hd : gSd (gTo sf s) A en9 b M) : bEx S E N M (fun i => en9 (b + i)) := by
  obtain ⟨B, h1, h2, h3⟩ := hd
  have hB : ∀ i, i < M → B i < N ∧ E (B i) := by
    intro i hi
    obtain ⟨j, hj, e⟩ := h1.1 i hi
    rw [e]
    exact ⟨(hl.1 j hj).2, hs.1 j hj⟩
  refine ⟨B, h2, hB, fun i j hij hj => ⟨fun l => ?_, h1.2.2 i j hij hj⟩, fun m hm e => ?_⟩
  · exact h3 i j hij hj (gOl_13 (fun t ht => (hT _ (hB j hj).1 t ht).symm) (fun t ht => (hT _ (hB i (by omega)).1 t ht).symm) l)
  · obtain ⟨i, hi, ei⟩ := hs.2 m hm e
    obtain ⟨k, hk, ek⟩ := h1.2.1 i hi
    exact ⟨k, hk, ek.trans ei⟩
theorem rR_13 {m8 : Int32} {nc : Nat} {f w : Nat → Int32} (h : rR m8 nc f w) : ∀ j, j < 13 → w (3 + j) = f j := by
  obtain ⟨nx, rz, cs, st, h1, _⟩ := h
  intro j hj
  by_cases c1 : j < 9
  · obtain ⟨k, r, hk, hr, rfl⟩ : ∃ k r, k < 3 ∧ r < 3 ∧ j = (k * 3) + r := ⟨j / 3, j % 3, by omega, by omega, by omega⟩
    rw [(h1.2 k hk).2.2.2.2.2.2.2.2.1 r hr]
    congr 1
    omega
  · obtain ⟨c, hc, rfl⟩ : ∃ c, c < 4 ∧ j = 9 + c := ⟨j - 9, by omega, by omega⟩
    rw [h1.1 c hc]
    congr 1
    omega
theorem b9_13 {T : bT} {m8 : Int32} {nc : Nat} {fr bf : Nat → Int32} (h : b9 T m8 nc s N sf fr bf) : ∀ m, m < N → ∀ j, j < 13 → gTo sf s m j = T.2.1 m j := by
  intro m hm j hj
  rw [← rR_13 (h.2.2.1 m hm) j hj]
  show sf (((((3000 * s) + m) * 58) + 3) + j) = sf ((((3000 * s) + m) * 58) + (3 + j))
  congr 1
  omega
end ELL
