
/-! the class's table of STATES by what is hashed -/
def gH0 (f : Nat → Int32) : Nat → Int32
  | 0 => 0
  | i + 1 => (gH0 f i * 31) + f i
def gHa (h : Int32) : Int32 := (h ^^^ (((h).toUInt32 >>> ((16 : Int32).toUInt32 &&& Int32.toUInt32 31)).toInt32)) * (-2048144789)
def gHm (h : Int32) : Int32 := gHa h ^^^ (((gHa h).toUInt32 >>> ((13 : Int32).toUInt32 &&& Int32.toUInt32 31)).toInt32)
def gHs (f : Nat → Int32) (wd : Nat) : Int32 := gHm (gH0 f wd)
def gEnt (h : Int32) (n : Nat) : Int32 := (h &&& (-4096)) ||| nI (n + 1)
def gRo (rf : Nat → Int32) (wd n : Nat) : Nat → Int32 := fun j => rf (n * wd + j)
def gHome (h : Int32) : Nat := h.toBitVec.toNat % 4096
def gHt (sl rf : Nat → Int32) (wd sz : Nat) : Prop := (∀ p, p < 4096 → sl p = 0 ∨ ∃ n, n < sz ∧ sl p = gEnt (gHs (gRo rf wd n) wd) n) ∧ (∀ n, n < sz → ∃ d, d < 4096 ∧ sl ((gHome (gHs (gRo rf wd n) wd) + d) % 4096) = gEnt (gHs (gRo rf wd n) wd) n ∧ ∀ e, e < d → ¬ sl ((gHome (gHs (gRo rf wd n) wd) + e) % 4096) = 0) ∧ (∀ p q n, p < 4096 → q < 4096 → n < sz → sl p = gEnt (gHs (gRo rf wd n) wd) n → sl q = gEnt (gHs (gRo rf wd n) wd) n → p = q)
theorem gH0_ag {f g : Nat → Int32} : ∀ i, gAg i f g → gH0 f i = gH0 g i
  | 0, _ => rfl
  | i + 1, h => by
    show (gH0 f i * 31) + f i = (gH0 g i * 31) + g i
    rw [gH0_ag i (fun j hj => h j (by omega)), h i (by omega)]
theorem gHs_ag {f g : Nat → Int32} {wd : Nat} (h : gAg wd f g) : gHs f wd = gHs g wd := by
  unfold gHs
  rw [gH0_ag wd h]
theorem gEnt_lo {h : Int32} {n : Nat} (hn : n < 4095) : (gEnt h n).toBitVec.toNat % 4096 = n + 1 := gLw_or h (by omega)
theorem gEnt_n0 {h : Int32} {n : Nat} (hn : n < 4095) : ¬ gEnt h n = 0 := by
  intro e
  have := gEnt_lo (h := h) hn
  rw [e] at this
  exact absurd this (by rw [show (0 : Int32).toBitVec.toNat % 4096 = 0 by decide]; omega)
theorem gEnt_in {h h' : Int32} {n n' : Nat} (hn : n < 4095) (hn' : n' < 4095) (e : gEnt h n = gEnt h' n') : n = n' := by
  have a := gEnt_lo (h := h) hn
  have b := gEnt_lo (h := h') hn'
  rw [e] at a
  omega
theorem gEnt_x {h : Int32} {n : Nat} (hn : n < 4095) : ((gEnt h n) ^^^ h) &&& (-4096) = 0 := by
  have hM : (-4096 : Int32).toBitVec.toNat = 4294963200 := by decide +kernel
  have hlt := h.toBitVec.isLt
  apply Int32.toBitVec.inj
  apply BitVec.eq_of_toNat_eq
  unfold gEnt
  rw [Int32.toBitVec_and, BitVec.toNat_and, Int32.toBitVec_xor, BitVec.toNat_xor, Int32.toBitVec_or, BitVec.toNat_or, Int32.toBitVec_and, BitVec.toNat_and, hM, pk_tn (by omega)]
  generalize h.toBitVec.toNat = H at hlt ⊢
  have e1 : ((((H &&& 4294963200) ||| (n + 1)) ^^^ H) &&& 4294963200) % 2 ^ 12 = 0 := by
    rw [Nat.and_mod_two_pow, show 4294963200 % 2 ^ 12 = 0 by decide, Nat.and_zero]
  have e2 : ((((H &&& 4294963200) ||| (n + 1)) ^^^ H) &&& 4294963200) / 2 ^ 12 = 0 := by
    rw [Nat.and_div_two_pow, Nat.xor_div_two_pow, Nat.or_div_two_pow, Nat.and_div_two_pow, show 4294963200 / 2 ^ 12 = 2 ^ 20 - 1 by decide, Nat.and_two_pow_sub_one_eq_mod, Nat.and_two_pow_sub_one_eq_mod, show (n + 1) / 2 ^ 12 = 0 by omega, Nat.or_zero, Nat.mod_eq_of_lt (show H / 2 ^ 12 < 2 ^ 20 by omega), Nat.xor_self, Nat.zero_mod]
  show ((((H &&& 4294963200) ||| (n + 1)) ^^^ H) &&& 4294963200) = 0
  omega
theorem gy_pig : ∀ (n m : Nat) (g : Nat → Nat), (∀ i, i < m → g i < n) → (∀ i j, i < m → j < m → g i = g j → i = j) → m ≤ n
  | 0, m, g, h1, _ => by
    by_cases e : m = 0
    · omega
    · exact absurd (h1 0 (by omega)) (Nat.not_lt_zero _)
  | n + 1, 0, _, _, _ => Nat.zero_le _
  | n + 1, m + 1, g, h1, h2 => by
    have h := gy_pig n m (fun i => if g i = n then g m else g i) (fun i hi => by
      show (if g i = n then g m else g i) < n
      by_cases e : g i = n
      · rw [if_pos e]
        have a := h1 m (by omega)
        have b : g m ≠ n := fun q => absurd (h2 i m (by omega) (by omega) (e.trans q.symm)) (by omega)
        omega
      · rw [if_neg e]
        have := h1 i (by omega)
        omega) (fun i j hi hj q => by
      have q : (if g i = n then g m else g i) = (if g j = n then g m else g j) := q
      by_cases ei : g i = n <;> by_cases ej : g j = n
      · exact h2 i j (by omega) (by omega) (ei.trans ej.symm)
      · rw [if_pos ei, if_neg ej] at q
        exact absurd (h2 m j (by omega) (by omega) q) (by omega)
      · rw [if_neg ei, if_pos ej] at q
        exact absurd (h2 i m (by omega) (by omega) q) (by omega)
      · rw [if_neg ei, if_neg ej] at q
        exact h2 i j (by omega) (by omega) q)
    omega
section HTT
variable {sl rf rf9 f : Nat → Int32} {wd sz i j n : Nat} {h : Int32}
theorem gHt_0 (h : ∀ j, j < 4096 → sl j = 0) : gHt sl rf wd 0 := ⟨fun p hp => Or.inl (h p hp), fun n hn => absurd hn (Nat.not_lt_zero n), fun p q n _ _ hn => absurd hn (Nat.not_lt_zero n)⟩
/-- i slots have been looked at -/
def gKp (sl rf f : Nat → Int32) (wd sz i j : Nat) : Prop := j = (gHome (gHs f wd) + i) % 4096 ∧ ∀ e, e < i → ¬ sl ((gHome (gHs f wd) + e) % 4096) = 0 ∧ ∀ n, n < sz → sl ((gHome (gHs f wd) + e) % 4096) = gEnt (gHs (gRo rf wd n) wd) n → ¬ gAg wd (gRo rf wd n) f
theorem gKp_0 (hh : h = gHs f wd) : gKp sl rf f wd sz 0 (h.toBitVec.toNat % 4096) := by
  subst hh
  exact ⟨by unfold gHome; omega, fun e he => absurd he (Nat.not_lt_zero e)⟩
theorem gKp_s (hk : gKp sl rf f wd sz i j) (hz : sz ≤ 3000) (h0 : ¬ sl j = 0) (hn : sl j = gEnt (gHs (gRo rf wd n) wd) n) (hns : n < sz) (hd : ¬ gAg wd (gRo rf wd n) f) : gKp sl rf f wd sz (i + 1) ((j + 1) % 4096) := by
  obtain ⟨a, b⟩ := hk
  refine ⟨by omega, fun e he => ?_⟩
  by_cases q : e = i
  · subst q
    rw [← a]
    refine ⟨h0, fun m hm em => ?_⟩
    have := gEnt_in (by omega) (by omega) (hn.symm.trans em)
    subst this
    exact hd
  · exact b e (by omega)
theorem gKp_u {j' : Nat} (hk : gKp sl rf f wd sz i j) (e : j' = j) : gKp sl rf f wd sz i j' := e ▸ hk
theorem gKp_no (hk : gKp sl rf f wd sz i j) (hz : sz ≤ 3000) (hH : gHt sl rf wd sz) (h0 : sl j = 0) : ¬ ∃ m, m < sz ∧ gAg wd (gRo rf wd m) f := by
  rintro ⟨m, hm, ha⟩
  obtain ⟨a, b⟩ := hk
  obtain ⟨d, hd, e1, e2⟩ := hH.2.1 m hm
  have eh := gHs_ag ha
  rcases Nat.lt_trichotomy d i with q | q | q
  · exact (b d q).2 m hm (by rw [← eh]; exact e1) ha
  · subst q
    rw [eh, ← a, h0, ← eh] at e1
    exact gEnt_n0 (by omega) e1.symm
  · have := e2 i q
    rw [eh, ← a] at this
    exact this h0
theorem gKp_end (hk : gKp sl rf f wd sz 4096 j) (hz : sz ≤ 3000) (hH : gHt sl rf wd sz) : False := by
  obtain ⟨a, b⟩ := hk
  have key : ∀ e, e < 4096 → ∃ n, n < sz ∧ sl ((gHome (gHs f wd) + e) % 4096) = gEnt (gHs (gRo rf wd n) wd) n := fun e he => (hH.1 _ (Nat.mod_lt _ (by decide))).resolve_left (b e he).1
  have := gy_pig sz 4096 (fun e => (sl ((gHome (gHs f wd) + e) % 4096)).toBitVec.toNat % 4096 - 1) (fun e he => by
    obtain ⟨n, hn, en⟩ := key e he
    show (sl ((gHome (gHs f wd) + e) % 4096)).toBitVec.toNat % 4096 - 1 < sz
    rw [en, gEnt_lo (by omega)]
    omega) (fun e e' he he' q => by
    have q : (sl ((gHome (gHs f wd) + e) % 4096)).toBitVec.toNat % 4096 - 1 = (sl ((gHome (gHs f wd) + e') % 4096)).toBitVec.toNat % 4096 - 1 := q
    obtain ⟨n, hn, en⟩ := key e he
    obtain ⟨n', hn', en'⟩ := key e' he'
    rw [en, en', gEnt_lo (by omega), gEnt_lo (by omega)] at q
    have e0 : n = n' := by omega
    subst e0
    have := hH.2.2 _ _ n (Nat.mod_lt _ (by decide)) (Nat.mod_lt _ (by decide)) hn en en'
    omega)
  omega
theorem gHt_add (hk : gKp sl rf f wd sz i j) (hi : i < 4096) (hz : sz < 3000) (hH : gHt sl rf wd sz) (h0 : sl j = 0) (hh : h = gHs f wd) (r1 : ∀ t, t < sz * wd → rf9 t = rf t) (r2 : ∀ t, t < wd → rf9 (sz * wd + t) = f t) : gHt (upd sl j ((h &&& (-4096)) ||| nI (sz + 1))) rf9 wd (sz + 1) := by
  subst hh
  obtain ⟨a, b⟩ := hk
  have hrow : ∀ m, m < sz → gHs (gRo rf9 wd m) wd = gHs (gRo rf wd m) wd := fun m hm => gHs_ag (fun t ht => r1 _ (by have := gy_row (wd := wd) hm; omega))
  have hnew : gHs (gRo rf9 wd sz) wd = gHs f wd := gHs_ag (fun t ht => r2 t ht)
  have hj : j < 4096 := by rw [a]; exact Nat.mod_lt _ (by decide)
  have hE : (gHs f wd &&& (-4096)) ||| nI (sz + 1) = gEnt (gHs f wd) sz := rfl
  rw [hE]
  have hold : ∀ m p, m < sz → sl p = gEnt (gHs (gRo rf wd m) wd) m → p ≠ j := fun m p hm e q => gEnt_n0 (by omega) (e.symm.trans (by rw [q]; exact h0))
  refine ⟨fun p hp => ?_, fun m hm => ?_, fun p q m hp hq hm ep eq => ?_⟩
  · by_cases e : p = j
    · subst e
      rw [pk_us]
      exact Or.inr ⟨sz, by omega, by rw [hnew]⟩
    · rw [pk_un e]
      rcases hH.1 p hp with q | ⟨m, hm, q⟩
      · exact Or.inl q
      · exact Or.inr ⟨m, by omega, by rw [hrow m hm]; exact q⟩
  · by_cases e : m = sz
    · subst e
      rw [hnew]
      refine ⟨i, hi, by rw [← a, pk_us], fun t ht => ?_⟩
      by_cases q : (gHome (gHs f wd) + t) % 4096 = j
      · rw [q, pk_us]
        exact gEnt_n0 (by omega)
      · rw [pk_un q]
        exact (b t ht).1
    · have hm' : m < sz := by omega
      rw [hrow m hm']
      obtain ⟨d, hd, e1, e2⟩ := hH.2.1 m hm'
      refine ⟨d, hd, by rw [pk_un (hold m _ hm' e1)]; exact e1, fun t ht => ?_⟩
      by_cases q : (gHome (gHs (gRo rf wd m) wd) + t) % 4096 = j
      · rw [q, pk_us]
        exact gEnt_n0 (by omega)
      · rw [pk_un q]
        exact e2 t ht
  · by_cases e : m = sz
    · subst e
      rw [hnew] at ep eq
      have only : ∀ p, p < 4096 → upd sl j (gEnt (gHs f wd) m) p = gEnt (gHs f wd) m → p = j := by
        intro p hp ep
        by_cases q : p = j
        · exact q
        · rw [pk_un q] at ep
          rcases hH.1 p hp with q | ⟨m', hm', q⟩
          · exact absurd (ep.symm.trans q) (gEnt_n0 (by omega))
          · have := gEnt_in (by omega) (by omega) (ep.symm.trans q)
            omega
      rw [only p hp ep, only q hq eq]
    · have hm' : m < sz := by omega
      rw [hrow m hm'] at ep eq
      have only : ∀ p, p < 4096 → upd sl j (gEnt (gHs f wd) sz) p = gEnt (gHs (gRo rf wd m) wd) m → sl p = gEnt (gHs (gRo rf wd m) wd) m := by
        intro p hp ep
        by_cases q : p = j
        · subst q
          rw [pk_us] at ep
          have := gEnt_in (by omega) (by omega) ep
          omega
        · rw [pk_un q] at ep
          exact ep
      exact hH.2.2 p q m hp hq hm' (only p hp ep) (only q hq eq)
end HTT
/-- what keep does -/
def gKq (z : Int32) (sz sz9 wd : Nat) (rf rf9 cm cm9 sl sl9 f : Nat → Int32) (x : Int32) : Prop := (z = 1 ∧ (∃ m, m < sz ∧ gAg wd (gRo rf wd m) f) ∧ sz9 = sz ∧ rf9 = rf ∧ cm9 = cm ∧ sl9 = sl) ∨ (¬ (∃ m, m < sz ∧ gAg wd (gRo rf wd m) f) ∧ ((z = 0 ∧ sz = 3000) ∨ (z = 1 ∧ sz < 3000 ∧ sz9 = sz + 1 ∧ (∀ j, j < sz * wd → rf9 j = rf j) ∧ (∀ j, j < wd → rf9 (sz * wd + j) = f j) ∧ cm9 = upd cm sz x ∧ gHt sl9 rf9 wd sz9)))
