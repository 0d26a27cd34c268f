
/-! OUTCOMES in their order -/
def gOl (f g : Nat → Int32) : Prop := ∃ i, i < 13 ∧ (∀ j, j < i → f j = g j) ∧ f i < g i
section LTT
variable {f g h : Nat → Int32}
theorem gOl_ir : ¬ gOl f f := fun ⟨_, _, _, h⟩ => absurd h (Int32.lt_irrefl)
theorem gOl_tr (a : gOl f g) (b : gOl g h) : gOl f h := by
  obtain ⟨i, hi, e1, l1⟩ := a
  obtain ⟨k, hk, e2, l2⟩ := b
  rcases Nat.lt_trichotomy i k with q | q | q
  · exact ⟨i, hi, fun j hj => (e1 j hj).trans (e2 j (by omega)), by rw [← e2 i q]; exact l1⟩
  · subst q
    exact ⟨i, hi, fun j hj => (e1 j hj).trans (e2 j hj), Int32.lt_trans l1 l2⟩
  · exact ⟨k, hk, fun j hj => (e1 j (by omega)).trans (e2 j hj), by rw [e1 k q]; exact l2⟩
theorem gOl_as (a : gOl f g) (b : gOl g f) : False := gOl_ir (gOl_tr a b)
theorem gOl_to : ∀ n, n ≤ 13 → (∀ j, j < n → f j = g j) ∨ gOl f g ∨ gOl g f
  | 0, _ => Or.inl (fun j hj => absurd hj (Nat.not_lt_zero j))
  | n + 1, hn => by
    rcases gOl_to n (by omega) with a | a
    · by_cases e : f n = g n
      · left
        intro j hj
        by_cases q : j = n
        · rw [q]; exact e
        · exact a j (by omega)
      · right
        by_cases l : f n < g n
        · exact Or.inl ⟨n, by omega, a, l⟩
        · exact Or.inr ⟨n, by omega, fun j hj => (a j hj).symm, Int32.lt_of_le_of_ne (Int32.not_lt.mp l) (fun q => e q.symm)⟩
    · exact Or.inr a
end LTT
/-- e lists, in their order, the ends among the first n STATES -/
def bEn (S : Nat → Nat → Int32) (E : Nat → Prop) (n M : Nat) (e : Nat → Nat) : Prop := (∀ i, i < M → e i < n ∧ E (e i)) ∧ (∀ i j, i < j → j < M → gOl (S (e i)) (S (e j))) ∧ ∀ m, m < n → E m → ∃ i, i < M ∧ e i = m
theorem bEn_u {S : Nat → Nat → Int32} {E : Nat → Prop} {n M M' : Nat} {e e' : Nat → Nat} (h : bEn S E n M e) (h' : bEn S E n M' e') : M = M' ∧ ∀ i, i < M → e i = e' i := by
  obtain ⟨a1, a2, a3⟩ := h
  obtain ⟨b1, b2, b3⟩ := h'
  have key : ∀ i, i < M → i < M' → (∀ j, j < i → e j = e' j) → e i = e' i := by
    intro i hi hi' hj
    obtain ⟨k, hk, ek⟩ := a3 (e' i) (b1 i hi').1 (b1 i hi').2
    obtain ⟨l, hl, el⟩ := b3 (e i) (a1 i hi).1 (a1 i hi).2
    rcases Nat.lt_trichotomy k i with q | q | q
    · have := b2 k i q hi'
      rw [← ek, ← hj k q] at this
      exact absurd this gOl_ir
    · rw [← ek, q]
    · rcases Nat.lt_trichotomy l i with p | p | p
      · have := a2 l i p hi
        rw [← el, hj l p] at this
        exact absurd this gOl_ir
      · rw [← el, p]
      · have c1 := a2 i k q hk
        have c2 := b2 i l p hl
        rw [ek] at c1
        rw [el] at c2
        exact (gOl_as c1 c2).elim
  have all : ∀ i, i < M → i < M' → e i = e' i := by
    intro i
    induction i using Nat.strongRecOn with
    | ind i ih => exact fun hi hi' => key i hi hi' (fun j hj => ih j hj (by omega) (by omega))
  have le1 : M ≤ M' := by
    rcases Nat.lt_or_ge M' M with q | q
    · obtain ⟨k, hk, ek⟩ := b3 (e M') (a1 M' q).1 (a1 M' q).2
      have := a2 k M' hk q
      rw [all k (by omega) hk, ek] at this
      exact absurd this gOl_ir
    · exact q
  have le2 : M' ≤ M := by
    rcases Nat.lt_or_ge M M' with q | q
    · obtain ⟨k, hk, ek⟩ := a3 (e' M) (b1 M q).1 (b1 M q).2
      have := b2 k M hk q
      rw [← all k hk (by omega), ek] at this
      exact absurd this gOl_ir
    · exact q
  exact ⟨by omega, fun i hi => all i hi (by omega)⟩
section LTM
variable {f g : Nat → Int32} {i : Nat}
theorem gOl_no (hi : i < 13) (a : ∀ j, j < i → f j = g j) (ne : ¬ f i = g i) (h : ¬ f i < g i) : ¬ gOl f g := by
  rintro ⟨t, ht, e, l⟩
  rcases Nat.lt_trichotomy t i with q | q | q
  · rw [a t q] at l
    exact absurd l Int32.lt_irrefl
  · subst q
    exact h l
  · exact ne (e i q)
theorem gOl_eq (a : ∀ j, j < 13 → f j = g j) : ¬ gOl f g := by
  rintro ⟨t, ht, e, l⟩
  rw [a t ht] at l
  exact absurd l Int32.lt_irrefl
theorem gOl_ag {wd : Nat} {f' g' : Nat → Int32} (h1 : gAg wd f f') (h2 : gAg wd g g') (hw : 16 ≤ wd) : gOl f g ↔ gOl f' g' := by
  constructor
  · rintro ⟨i, hi, e, l⟩
    exact ⟨i, hi, fun j hj => (h1 j (by omega)).symm.trans ((e j hj).trans (h2 j (by omega))), by rw [← h1 i (by omega), ← h2 i (by omega)]; exact l⟩
  · rintro ⟨i, hi, e, l⟩
    exact ⟨i, hi, fun j hj => (h1 j (by omega)).trans ((e j hj).trans (h2 j (by omega)).symm), by rw [h1 i (by omega), h2 i (by omega)]; exact l⟩
end LTM
/-- n put into the list e at lo -/
def gIq (e : Nat → Nat) (lo n : Nat) : Nat → Nat := fun i => if i < lo then e i else if i = lo then n else e (i - 1)
theorem gIq_a {e : Nat → Nat} {lo n i : Nat} (h : i < lo) : gIq e lo n i = e i := if_pos h
theorem gIq_b {e : Nat → Nat} {lo n : Nat} : gIq e lo n lo = n := by
  show (if lo < lo then e lo else if lo = lo then n else e (lo - 1)) = n
  rw [if_neg (Nat.lt_irrefl _), if_pos rfl]
theorem gIq_c {e : Nat → Nat} {lo n i : Nat} (h : lo < i) : gIq e lo n i = e (i - 1) := by
  show (if i < lo then e i else if i = lo then n else e (i - 1)) = e (i - 1)
  rw [if_neg (by omega), if_neg (by omega)]
/-- where n goes in -/
def gAw (R : Nat → Nat → Int32) (e : Nat → Nat) (es n lo : Nat) : Prop := lo ≤ es ∧ (∀ i, i < lo → gOl (R (e i)) (R n)) ∧ ∀ i, lo ≤ i → i < es → ¬ gOl (R (e i)) (R n)
/-- e lists the ends among the first n STATES, none behind one that comes after it -/
def bEw (S : Nat → Nat → Int32) (E : Nat → Prop) (n M : Nat) (e : Nat → Nat) : Prop := (∀ i, i < M → e i < n ∧ E (e i)) ∧ (∀ i j, i < j → j < M → ¬ gOl (S (e j)) (S (e i)) ∧ e i ≠ e j) ∧ ∀ m, m < n → E m → ∃ i, i < M ∧ e i = m
theorem gOl_le {a b c : Nat → Int32} (h : ¬ gOl b a) (h2 : gOl b c) : gOl a c := by
  rcases gOl_to (f := a) (g := b) 13 (Nat.le_refl _) with q | q | q
  · obtain ⟨i, hi, e, l⟩ := h2
    exact ⟨i, hi, fun j hj => (q j (by omega)).trans (e j hj), by rw [q i hi]; exact l⟩
  · exact gOl_tr q h2
  · exact absurd q h
theorem bEw_s {S : Nat → Nat → Int32} {E : Nat → Prop} {n M lo : Nat} {e : Nat → Nat} (h : bEw S E n M e) (hE : E n) (hl : gAw S e M n lo) : bEw S E (n + 1) (M + 1) (gIq e lo n) := by
  obtain ⟨a1, a2, a3⟩ := h
  obtain ⟨l1, l2, l3⟩ := hl
  refine ⟨fun i hi => ?_, fun i j hij hj => ?_, fun m hm he => ?_⟩
  · rcases Nat.lt_trichotomy i lo with q | q | q
    · rw [gIq_a q]
      have := a1 i (by omega)
      exact ⟨by omega, this.2⟩
    · rw [q, gIq_b]
      exact ⟨by omega, hE⟩
    · rw [gIq_c q]
      have := a1 (i - 1) (by omega)
      exact ⟨by omega, this.2⟩
  · rcases Nat.lt_trichotomy j lo with q | q | q
    · rw [gIq_a q, gIq_a (by omega)]
      exact a2 i j hij (by omega)
    · rw [q, gIq_b, gIq_a (by omega)]
      have := (a1 i (by omega)).1
      exact ⟨fun l => gOl_as l (l2 i (by omega)), by omega⟩
    · rw [gIq_c q]
      rcases Nat.lt_trichotomy i lo with p | p | p
      · rw [gIq_a p]
        exact a2 i (j - 1) (by omega) (by omega)
      · rw [p, gIq_b]
        have := (a1 (j - 1) (by omega)).1
        exact ⟨l3 (j - 1) (by omega) (by omega), by omega⟩
      · rw [gIq_c p]
        exact a2 (i - 1) (j - 1) (by omega) (by omega)
  · by_cases q : m = n
    · exact ⟨lo, by omega, by rw [gIq_b, q]⟩
    · obtain ⟨i, hi, ei⟩ := a3 m (by omega) he
      by_cases p : i < lo
      · exact ⟨i, by omega, by rw [gIq_a p]; exact ei⟩
      · exact ⟨i + 1, by omega, by rw [gIq_c (by omega), show i + 1 - 1 = i by omega]; exact ei⟩
theorem bEw_n {S : Nat → Nat → Int32} {E : Nat → Prop} {n M : Nat} {e : Nat → Nat} (h : bEw S E n M e) (hE : ¬ E n) : bEw S E (n + 1) M e := by
  obtain ⟨a1, a2, a3⟩ := h
  refine ⟨fun i hi => ⟨by have := (a1 i hi).1; omega, (a1 i hi).2⟩, a2, fun m hm he => ?_⟩
  by_cases q : m = n
  · rw [q] at he
    exact absurd he hE
  · exact a3 m (by omega) he
theorem bEw_e {S : Nat → Nat → Int32} {E : Nat → Prop} {n M : Nat} {e : Nat → Nat} (h : bEw S E n M e) (hd : ∀ a b, a < n → b < n → E a → E b → a ≠ b → ¬ ∀ j, j < 13 → S a j = S b j) : bEn S E n M e := by
  obtain ⟨a1, a2, a3⟩ := h
  refine ⟨a1, fun i j hij hj => ?_, a3⟩
  obtain ⟨b1, b2⟩ := a2 i j hij hj
  have ci := a1 i (by omega)
  have cj := a1 j hj
  rcases gOl_to (f := S (e i)) (g := S (e j)) 13 (Nat.le_refl _) with q | q | q
  · exact absurd q (hd _ _ ci.1 cj.1 ci.2 cj.2 b2)
  · exact q
  · exact absurd q b1
section BSR
variable {R : Nat → Nat → Int32} {e : Nat → Nat} {es n lo hi m q : Nat} {ef : Nat → Int32}
theorem gB_lo (hso : ∀ i j, i < j → j < es → ¬ gOl (R (e j)) (R (e i))) (hm : m < es) (hq : gOl (R (e m)) (R n)) : ∀ i, i < m + 1 → gOl (R (e i)) (R n) := by
  intro i hi
  by_cases c : i = m
  · rw [c]; exact hq
  · exact gOl_le (hso i m (by omega) hm) hq
theorem gB_hi (hso : ∀ i j, i < j → j < es → ¬ gOl (R (e j)) (R (e i))) (hq : ¬ gOl (R (e m)) (R n)) : ∀ i, m ≤ i → i < es → ¬ gOl (R (e i)) (R n) := by
  intro i hmi hi l
  by_cases c : i = m
  · rw [c] at l; exact hq l
  · exact hq (gOl_le (hso m i (by omega) hi) l)
theorem gIq_ef (hee : ∀ i, i < es → ef i = nI (e i)) (hl : lo ≤ es) : ∀ i, i < es + 1 → upd (va_cpy ef ef lo (lo + 1) (es - lo)) lo (nI n) i = nI (gIq e lo n i) := by
  intro i hi
  rcases Nat.lt_trichotomy i lo with q | q | q
  · rw [pk_un (by omega), pk_cpy_out (by omega), gIq_a q]
    exact hee i (by omega)
  · rw [q, pk_us, gIq_b]
  · rw [pk_un (by omega), pk_cpy_in (by omega) (by omega), gIq_c q, show lo + (i - (lo + 1)) = i - 1 by omega]
    exact hee (i - 1) (by omega)
end BSR
/-- the ends in ef are those of the first n STATES, in order -/
def bEx (S : Nat → Nat → Int32) (E : Nat → Prop) (n es : Nat) (ef : Nat → Int32) : Prop := ∃ el : Nat → Nat, (∀ i, i < es → ef i = nI (el i)) ∧ bEw S E n es el
