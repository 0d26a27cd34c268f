
/-! THE RACE -/
def gSto (x : Int32) : Nat := (x >>> ((19 : Int32) &&& 31)).toBitVec.toNat % 16
/-- part c of CORE k's next INS -/
def gNi (f pf : Nat → Int32) (k c : Nat) : Int32 := pf ((((k * 8) + gNx (f (13 + k))) * 8) + c)
def gLdx (f pf : Nat → Int32) (L : Nat → Nat) (k x : Nat) : Prop := gNx (f (13 + k)) < L k ∧ gNi f pf k 0 = 0 ∧ gNi f pf k 1 = nI x
def gWri (f pf : Nat → Int32) (L : Nat → Nat) (k : Nat) (x : Int32) : Prop := gNx (f (13 + k)) < L k ∧ gNi f pf k 1 = x ∧ (gNi f pf k 0 = 1 ∨ gNi f pf k 0 = 5 ∨ gNi f pf k 0 = 6 ∨ gNi f pf k 0 = 7)
/-- among the CELLS d there is another than x -/
def gOq (d x : Nat) : Prop := ¬ nI d &&& ((1 <<< (nI x &&& 31)) ^^^ (-1)) = 0
def gRq (f pf : Nat → Int32) (L : Nat → Nat) (nc r w x : Nat) : Prop := r < nc ∧ w < nc ∧ w ≠ r ∧ x < 4 ∧ gLdx f pf L r x ∧ gOq (gSto (f (13 + r))) x ∧ gWri f pf L w (nI x)
def gR1 (f pf : Nat → Int32) (L : Nat → Nat) (nc r w x : Nat) : Prop := gRq f pf L nc r w x ∧ ∀ r9 w9 x9, gRq f pf L nc r9 w9 x9 → r < r9 ∨ (r = r9 ∧ w ≤ w9)
def gLc (f pf : Nat → Int32) (L : Nat → Nat) (k : Nat) (z : Int32) : Prop := (∃ x, x < 4 ∧ z = nI x ∧ gLdx f pf L k x) ∨ (z = (-1) ∧ ∀ x, ¬ gLdx f pf L k x)
def gWc (f pf : Nat → Int32) (L : Nat → Nat) (k : Nat) (x z : Int32) : Prop := (z = 1 ∧ gWri f pf L k x) ∨ (z = 0 ∧ ¬ gWri f pf L k x)
def gLkx (x z : Int32) : Prop := (z = 1 ∧ (x = 5 ∨ x = 6 ∨ x = 7)) ∨ (z = 0 ∧ ¬ (x = 5 ∨ x = 6 ∨ x = 7))
def gIr (f pf : Nat → Int32) (L : Nat → Nat) (nc : Nat) (z a b c : Int32) : Prop := (z = 1 ∧ ∃ r w x, gR1 f pf L nc r w x ∧ a = nI r ∧ b = nI w ∧ c = nI x) ∨ (z = 0 ∧ ∀ r w x, ¬ gRq f pf L nc r w x)
def gRb (f pf : Nat → Int32) (L : Nat → Nat) (nc r : Nat) : Prop := ∀ r9 w9 x9, gRq f pf L nc r9 w9 x9 → r ≤ r9
def gRd (f pf : Nat → Int32) (L : Nat → Nat) (nc r w : Nat) : Prop := ∀ w9 x9, gRq f pf L nc r w9 x9 → w ≤ w9
section RAC
variable {f g pf : Nat → Int32} {L : Nat → Nat} {nc r w x k wd : Nat} {z a b c y : Int32}
theorem gLc_y (hI : gG L pf 7) (hk : k < 3) (h : gNx (f (13 + k)) < L k) (h0 : pf ((((k * 8) + gNx (f (13 + k))) * 8) + 0) = 0) : gLc f pf L k (pf ((((k * 8) + gNx (f (13 + k))) * 8) + 1)) := by
  obtain ⟨q, hq8, hq, _, hgc, _⟩ := hI k hk _ h
  have e : q = 0 := (nI_eq (a := q) (b := 0) (by omega) (by decide)).mp (hq.symm.trans h0)
  subst e
  obtain ⟨x, hx, ex⟩ := hgc (by decide) (by decide) (by decide) (by decide)
  exact Or.inl ⟨x, hx, ex, h, h0, ex⟩
theorem gLc_n (h : ¬ (gNx (f (13 + k)) < L k ∧ pf ((((k * 8) + gNx (f (13 + k))) * 8) + 0) = 0)) : gLc f pf L k (-1) := Or.inr ⟨rfl, fun x q => h ⟨q.1, q.2.1⟩⟩
theorem gLc_z (h : gLc f pf L k z) (e : z = (-1)) : ∀ x, ¬ gLdx f pf L k x := by
  rcases h with ⟨x, hx, ex, _⟩ | ⟨_, q⟩
  · exact absurd (show nI x < 0 by rw [← ex, e]; decide) (nI_pos (by omega))
  · exact q
theorem gLdx_u {x9 : Nat} (hx : x < 4) (hx9 : x9 < 4) (h : gLdx f pf L k x) (h9 : gLdx f pf L k x9) : x = x9 := (nI_eq (by omega) (by omega)).mp (h.2.2.symm.trans h9.2.2)
theorem gRb_0 : gRb f pf L nc 0 := fun _ _ _ _ => Nat.zero_le _
theorem gRd_0 : gRd f pf L nc r 0 := fun _ _ _ => Nat.zero_le _
theorem gRb_s (h : gRb f pf L nc r) (hn : ∀ w x, ¬ gRq f pf L nc r w x) : gRb f pf L nc (r + 1) := fun r9 w9 x9 q => by
  have := h r9 w9 x9 q
  by_cases e : r9 = r
  · subst e; exact absurd q (hn w9 x9)
  · omega
theorem gRd_s (h : gRd f pf L nc r w) (hn : ∀ x, ¬ gRq f pf L nc r w x) : gRd f pf L nc r (w + 1) := fun w9 x9 q => by
  have := h w9 x9 q
  by_cases e : w9 = w
  · subst e; exact absurd q (hn x9)
  · omega
theorem gRq_l (h : ∀ x, ¬ gLdx f pf L r x) : ∀ w x, ¬ gRq f pf L nc r w x := fun _ x q => h x q.2.2.2.2.1
theorem gRq_o (hx : x < 4) (hl : gLdx f pf L r x) (h : ¬ gOq (gSto (f (13 + r))) x) : ∀ w x, ¬ gRq f pf L nc r w x := fun _ x9 q => h (by rw [gLdx_u hx q.2.2.2.1 hl q.2.2.2.2.1]; exact q.2.2.2.2.2.1)
theorem gRq_w (hx : x < 4) (hl : gLdx f pf L r x) (h : ¬ gWri f pf L w (nI x)) : ∀ x, ¬ gRq f pf L nc r w x := fun x9 q => h (by rw [gLdx_u hx q.2.2.2.1 hl q.2.2.2.2.1]; exact q.2.2.2.2.2.2)
theorem gRq_e (h : w = r) : ∀ x, ¬ gRq f pf L nc r w x := fun _ q => q.2.2.1 h
theorem gRq_d (h : gRd f pf L nc r w) (hw : nc ≤ w) : ∀ w x, ¬ gRq f pf L nc r w x := fun w9 x q => by
  have := h w9 x q
  have := q.2.1
  omega
theorem gIr_n (h : gRb f pf L nc r) (hr : nc ≤ r) : gIr f pf L nc 0 a b c := Or.inr ⟨rfl, fun r9 w9 x9 q => by
  have := h r9 w9 x9 q
  have := q.1
  omega⟩
theorem gIr_y (hr : r < nc) (hw : w < nc) (hwr : w ≠ r) (hx : x < 4) (hl : gLdx f pf L r x) (ho : gOq (gSto (f (13 + r))) x) (hwi : gWri f pf L w (nI x)) (hb : gRb f pf L nc r) (hd : gRd f pf L nc r w) : gIr f pf L nc 1 (nI r) (nI w) (nI x) := Or.inl ⟨rfl, r, w, x, ⟨⟨hr, hw, hwr, hx, hl, ho, hwi⟩, fun r9 w9 x9 q => by
  have h1 := hb r9 w9 x9 q
  by_cases e : r = r9
  · subst e; exact Or.inr ⟨rfl, hd w9 x9 q⟩
  · exact Or.inl (by omega)⟩, rfl, rfl, rfl⟩
theorem gRq_ag (h3 : nc ≤ 3) (hw : 16 ≤ wd) (h : gAg wd f g) {r w x : Nat} : gRq f pf L nc r w x ↔ gRq g pf L nc r w x := by
  have e : ∀ k, k < nc → f (13 + k) = g (13 + k) := fun k hk => h _ (by omega)
  unfold gRq gLdx gWri gNi
  constructor
  · rintro ⟨a, b, c⟩
    rw [e r a, e w b] at c
    exact ⟨a, b, c⟩
  · rintro ⟨a, b, c⟩
    rw [← e r a, ← e w b] at c
    exact ⟨a, b, c⟩
theorem gR1_ag (h3 : nc ≤ 3) (hw : 16 ≤ wd) (h : gAg wd f g) (q : gR1 f pf L nc r w x) : gR1 g pf L nc r w x := ⟨(gRq_ag h3 hw h).mp q.1, fun r9 w9 x9 p => q.2 r9 w9 x9 ((gRq_ag h3 hw h).mpr p)⟩
theorem gR1_u {r9 w9 x9 : Nat} (h : gR1 f pf L nc r w x) (h9 : gR1 f pf L nc r9 w9 x9) : r = r9 ∧ w = w9 ∧ x = x9 := by
  have a := h.2 r9 w9 x9 h9.1
  have b := h9.2 r w x h.1
  have e : r = r9 := by omega
  subst e
  exact ⟨rfl, by omega, gLdx_u h.1.2.2.2.1 h9.1.2.2.2.1 h.1.2.2.2.2.1 h9.1.2.2.2.2.1⟩
theorem gSto_p {a b c d : Nat} (ha : a < 16) (hb : b < 8) (hc : c < 4096) (hd : d < 16) : gSto (gPw a b c d) = d := by
  unfold gSto gPw
  rw [pk_shrN (by omega) _ 19 (by decide +kernel), pk_tn (by omega)]
  omega
end RAC
/-- where THE RACE is -/
def gRf (pf cf : Nat → Int32) (L : Nat → Nat) (nc : Nat) (lo wr ce : Int32) (t : Nat) (pa : Nat → Int32) : Prop := ∃ (n r w x l : Nat) (ps : Nat → Nat), n < (bFin pf cf L nc (nI 2)).1 ∧ (∀ m r9 w9 x9, m < n → ¬ gRq ((bFin pf cf L nc (nI 2)).2.1 m) pf L nc r9 w9 x9) ∧ gR1 ((bFin pf cf L nc (nI 2)).2.1 n) pf L nc r w x ∧ lo = nI r ∧ wr = nI w ∧ ce = nI x ∧ gPth (bFin pf cf L nc (nI 2)).2.2.1 ps l n ∧ l ≤ 36 ∧ t = l ∧ ∀ j, j < l → pa j = nI (ps j)
def gRaS (pf cf : Nat → Int32) (L : Nat → Nat) (nc : Nat) (an lo wr ce : Int32) (t : Nat) (pa : Nat → Int32) : Prop := (an = (-2) ∧ (bFin pf cf L nc (nI 2)).2.2.2 = false) ∨ ((bFin pf cf L nc (nI 2)).2.2.2 = true ∧ ((an = 0 ∧ ∀ m r9 w9 x9, m < (bFin pf cf L nc (nI 2)).1 → ¬ gRq ((bFin pf cf L nc (nI 2)).2.1 m) pf L nc r9 w9 x9) ∨ (an = 1 ∧ gRf pf cf L nc lo wr ce t pa)))
/-- the search for it so far -/
def gRl2 (pf cf : Nat → Int32) (L : Nat → Nat) (nc n : Nat) (an lo wr ce : Int32) (t : Nat) (pa : Nat → Int32) : Prop := (an = 0 ∧ ∀ m r9 w9 x9, m < n → ¬ gRq ((bFin pf cf L nc (nI 2)).2.1 m) pf L nc r9 w9 x9) ∨ (an = 1 ∧ gRf pf cf L nc lo wr ce t pa)
/-- what tell answers -/
def gTl (an lo wr ce : Int32) (t : Nat) (pa : Nat → Int32) (x z : Int32) : Prop := (¬ an = 1 ∧ z = (-1)) ∨ (an = 1 ∧ ((x < 0 ∧ z = (-1)) ∨ (x = nI 0 ∧ z = lo) ∨ (x = nI 1 ∧ z = wr) ∨ (x = nI 2 ∧ z = ce) ∨ ∃ j, 3 ≤ j ∧ j < 2 ^ 31 ∧ x = nI j ∧ ((j - 3 < t ∧ z = pa (j - 3)) ∨ (t ≤ j - 3 ∧ z = (-1)))))
def rRa (pf cf : Nat → Int32) (L : Nat → Nat) (nc : Nat) (ld z : Int32) : Prop := (ld = 0 ∧ z = (-1)) ∨ (¬ ld = 0 ∧ ∃ (lo wr ce : Int32) (t : Nat) (pa : Nat → Int32), gRaS pf cf L nc z lo wr ce t pa)
def rRr (pf cf : Nat → Int32) (L : Nat → Nat) (nc : Nat) (ld x z : Int32) : Prop := (ld = 0 ∧ z = (-1)) ∨ (¬ ld = 0 ∧ x < 0 ∧ z = (-1)) ∨ (¬ ld = 0 ∧ ¬ x < 0 ∧ ∃ (an lo wr ce : Int32) (t : Nat) (pa : Nat → Int32), gRaS pf cf L nc an lo wr ce t pa ∧ gTl an lo wr ce t pa x z)
section RAU
variable {pf cf pa pa9 : Nat → Int32} {L : Nat → Nat} {nc t t9 n : Nat} {an an9 lo lo9 wr wr9 ce ce9 x z z9 ld : Int32}
theorem gRf_u (h : gRf pf cf L nc lo wr ce t pa) (h9 : gRf pf cf L nc lo9 wr9 ce9 t9 pa9) : lo = lo9 ∧ wr = wr9 ∧ ce = ce9 ∧ t = t9 ∧ (∀ j, j < t → pa j = pa9 j) ∧ t ≤ 36 := by
  obtain ⟨n, r, w, x, l, ps, a1, a2, a3, a4, a5, a6, a7, a8, a9, a10⟩ := h
  obtain ⟨n9, r9, w9, x9, l9, ps9, b1, b2, b3, b4, b5, b6, b7, b8, b9, b10⟩ := h9
  have e : n = n9 := by
    rcases Nat.lt_trichotomy n n9 with q | q | q
    · exact absurd a3.1 (b2 n r w x q)
    · exact q
    · exact absurd b3.1 (a2 n9 r9 w9 x9 q)
  subst e
  obtain ⟨e1, e2, e3⟩ := gR1_u a3 b3
  have k := bFin_le (pf := pf) (cf := cf) (L := L) (nc := nc) (m8 := nI 2)
  obtain ⟨e4, e5⟩ := gPth_u l l9 n (by omega) a7 b7
  refine ⟨by rw [a4, b4, e1], by rw [a5, b5, e2], by rw [a6, b6, e3], by rw [a9, b9, e4], fun j hj => ?_, by omega⟩
  rw [a10 j (by omega), b10 j (by omega), e5 j (by omega)]
theorem gRaS_u (h : gRaS pf cf L nc an lo wr ce t pa) (h9 : gRaS pf cf L nc an9 lo9 wr9 ce9 t9 pa9) : an = an9 ∧ (an = 1 → gRf pf cf L nc lo wr ce t pa ∧ gRf pf cf L nc lo9 wr9 ce9 t9 pa9) := by
  rcases h with ⟨a, b⟩ | ⟨b, h⟩ <;> rcases h9 with ⟨a9, b9⟩ | ⟨b9, h9⟩
  · exact ⟨a.trans a9.symm, fun q => absurd (a.symm.trans q) (by decide)⟩
  · exact absurd (b9.symm.trans b) (by decide)
  · exact absurd (b.symm.trans b9) (by decide)
  · rcases h with ⟨a, c⟩ | ⟨a, c⟩ <;> rcases h9 with ⟨a9, c9⟩ | ⟨a9, c9⟩
    · exact ⟨a.trans a9.symm, fun q => absurd (a.symm.trans q) (by decide)⟩
    · obtain ⟨n, r, w, x, l, ps, q1, _, q3, _⟩ := c9
      exact absurd q3.1 (c n r w x q1)
    · obtain ⟨n, r, w, x, l, ps, q1, _, q3, _⟩ := c
      exact absurd q3.1 (c9 n r w x q1)
    · exact ⟨a.trans a9.symm, fun _ => ⟨c, c9⟩⟩
theorem gTl_u (e1 : lo = lo9) (e2 : wr = wr9) (e3 : ce = ce9) (e4 : t = t9) (e5 : ∀ j, j < t → pa j = pa9 j) (h3 : t ≤ 36) (h : gTl 1 lo wr ce t pa x z) (h9 : gTl 1 lo9 wr9 ce9 t9 pa9 x z9) : z = z9 := by
  subst e1; subst e2; subst e3; subst e4
  have h := (h.resolve_left (fun q => q.1 rfl)).2
  have h9 := (h9.resolve_left (fun q => q.1 rfl)).2
  have neg : ∀ j, j < 2 ^ 31 → x = nI j → ¬ x < 0 := fun j hj e q => nI_pos (n := j) hj (by rw [← e]; exact q)
  have eq : ∀ i j, i < 2 ^ 31 → j < 2 ^ 31 → x = nI i → x = nI j → i = j := fun i j hi hj a b => (nI_eq hi hj).mp (a.symm.trans b)
  rcases h with ⟨a, b⟩ | ⟨a, b⟩ | ⟨a, b⟩ | ⟨a, b⟩ | ⟨j, a1, a2, a3, b⟩ <;> rcases h9 with ⟨c, d⟩ | ⟨c, d⟩ | ⟨c, d⟩ | ⟨c, d⟩ | ⟨i, c1, c2, c3, d⟩
  · exact b.trans d.symm
  · exact absurd a (neg 0 (by decide) c)
  · exact absurd a (neg 1 (by decide) c)
  · exact absurd a (neg 2 (by decide) c)
  · exact absurd a (neg i c2 c3)
  · exact absurd c (neg 0 (by decide) a)
  · exact b.trans d.symm
  · exact absurd (eq 0 1 (by decide) (by decide) a c) (by decide)
  · exact absurd (eq 0 2 (by decide) (by decide) a c) (by decide)
  · have := eq 0 i (by decide) c2 a c3; omega
  · exact absurd c (neg 1 (by decide) a)
  · exact absurd (eq 1 0 (by decide) (by decide) a c) (by decide)
  · exact b.trans d.symm
  · exact absurd (eq 1 2 (by decide) (by decide) a c) (by decide)
  · have := eq 1 i (by decide) c2 a c3; omega
  · exact absurd c (neg 2 (by decide) a)
  · exact absurd (eq 2 0 (by decide) (by decide) a c) (by decide)
  · exact absurd (eq 2 1 (by decide) (by decide) a c) (by decide)
  · exact b.trans d.symm
  · have := eq 2 i (by decide) c2 a c3; omega
  · exact absurd c (neg j a2 a3)
  · have := eq j 0 a2 (by decide) a3 c; omega
  · have := eq j 1 a2 (by decide) a3 c; omega
  · have := eq j 2 a2 (by decide) a3 c; omega
  · have k := eq j i a2 c2 a3 c3
    subst k
    rcases b with ⟨b1, b2⟩ | ⟨b1, b2⟩ <;> rcases d with ⟨d1, d2⟩ | ⟨d1, d2⟩
    · rw [b2, d2, e5 _ b1]
    · omega
    · omega
    · exact b2.trans d2.symm
theorem rRr_8 (hl : ¬ ld = 0) (h : gRaS pf cf L nc an lo wr ce t pa) (k : gTl an lo wr ce t pa x z) : rRr pf cf L nc ld x z := by
  by_cases q : x < 0
  · refine Or.inr (Or.inl ⟨hl, q, ?_⟩)
    have neg : ∀ j, j < 2 ^ 31 → x = nI j → False := fun j hj e => nI_pos (n := j) hj (by rw [← e]; exact q)
    rcases k with ⟨_, b⟩ | ⟨_, ⟨_, b⟩ | ⟨a, _⟩ | ⟨a, _⟩ | ⟨a, _⟩ | ⟨j, _, a2, a3, _⟩⟩
    · exact b
    · exact b
    · exact (neg 0 (by decide) a).elim
    · exact (neg 1 (by decide) a).elim
    · exact (neg 2 (by decide) a).elim
    · exact (neg j a2 a3).elim
  · exact Or.inr (Or.inr ⟨hl, q, an, lo, wr, ce, t, pa, h, k⟩)
theorem rRr_u (h : rRr pf cf L nc ld x z) (h9 : rRr pf cf L nc ld x z9) : z = z9 := by
  rcases h with ⟨a, b⟩ | ⟨a, a2, b⟩ | ⟨a, a2, an, lo, wr, ce, t, pa, b, c⟩ <;> rcases h9 with ⟨a9, b9⟩ | ⟨a9, a29, b9⟩ | ⟨a9, a29, an9, lo9, wr9, ce9, t9, pa9, b9, c9⟩
  · exact b.trans b9.symm
  · exact absurd a a9
  · exact absurd a a9
  · exact absurd a9 a
  · exact b.trans b9.symm
  · exact absurd a2 a29
  · exact absurd a9 a
  · exact absurd a29 a2
  · obtain ⟨e, k⟩ := gRaS_u b b9
    subst e
    by_cases q : an = 1
    · subst q
      obtain ⟨k1, k2⟩ := k rfl
      obtain ⟨e1, e2, e3, e4, e5, e6⟩ := gRf_u k1 k2
      exact gTl_u e1 e2 e3 e4 e5 e6 c c9
    · exact ((c.resolve_right (fun p => q p.1)).2).trans ((c9.resolve_right (fun p => q p.1)).2).symm
end RAU
section RAL
variable {pf cf pa pa9 f cm : Nat → Int32} {L ps : Nat → Nat} {nc t t9 n l wd : Nat} {an lo wr ce a b c z : Int32}
theorem gRl2_0 : gRl2 pf cf L nc 0 0 lo wr ce t pa := Or.inl ⟨rfl, fun m _ _ _ h => absurd h (Nat.not_lt_zero m)⟩
theorem gRl2_n (h3 : nc ≤ 3) (hw : 16 ≤ wd) (h : gRl2 pf cf L nc n an lo wr ce t pa) (ha : an = 0) (hg : gAg wd f ((bFin pf cf L nc (nI 2)).2.1 n)) (hi : gIr f pf L nc z a b c) (hz : z = 0) {lo9 wr9 ce9 : Int32} : gRl2 pf cf L nc (n + 1) an lo9 wr9 ce9 t pa := by
  have k := (h.resolve_right (fun q => absurd (q.1.symm.trans ha) (by decide))).2
  have i := (hi.resolve_left (fun q => absurd (q.1.symm.trans hz) (by decide))).2
  refine Or.inl ⟨ha, fun m r9 w9 x9 hm q => ?_⟩
  by_cases e : m = n
  · subst e
    exact i r9 w9 x9 ((gRq_ag h3 hw hg).mpr q)
  · exact k m r9 w9 x9 (by omega) q
theorem gRl2_y (h3 : nc ≤ 3) (hw : 16 ≤ wd) (h : gRl2 pf cf L nc n an lo wr ce t pa) (ha : an = 0) (hg : gAg wd f ((bFin pf cf L nc (nI 2)).2.1 n)) (hi : gIr f pf L nc z a b c) (hz : ¬ z = 0) (hn : n < (bFin pf cf L nc (nI 2)).1) (hp : gPth (bFin pf cf L nc (nI 2)).2.2.1 ps l n) (hl : l ≤ 36) (ht : t9 = l) (hpa : ∀ j, j < l → pa9 j = nI (ps j)) : gRl2 pf cf L nc (n + 1) 1 a b c t9 pa9 := by
  have k := (h.resolve_right (fun q => absurd (q.1.symm.trans ha) (by decide))).2
  obtain ⟨r, w, x, i1, i2, i3, i4⟩ := (hi.resolve_right (fun q => hz q.1)).2
  exact Or.inr ⟨rfl, n, r, w, x, l, ps, hn, k, gR1_ag h3 hw hg i1, i2, i3, i4, hp, hl, ht, hpa⟩
theorem gRl2_e (hw : (bFin pf cf L nc (nI 2)).2.2.2 = true) (h : gRl2 pf cf L nc n an lo wr ce t pa) (he : (bFin pf cf L nc (nI 2)).1 ≤ n ∨ ¬ an = 0) : gRaS pf cf L nc an lo wr ce t pa := by
  refine Or.inr ⟨hw, ?_⟩
  rcases h with ⟨q, k⟩ | h
  · rcases he with e | e
    · exact Or.inl ⟨q, fun m r9 w9 x9 hm => k m r9 w9 x9 (by omega)⟩
    · exact absurd q e
  · exact Or.inr h
end RAL
