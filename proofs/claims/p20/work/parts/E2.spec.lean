
section GL
variable {p : Program} {l : Launch} {e : Env} {R : Room} {s : State} {m : MethodId} {args : Array Value} {below : List Frame} {meth : Method} {c : Code} {H : Heap} {locs : List Loc} {cells slots : Nat} {Q : State → Prop}
variable {pc : Nat} {ls : Array Slot} {rest : List Value}
end GL
def gBl (x : Int32) : Prop := x = 9 ∨ x = 10 ∨ x = 13 ∨ x = 32
/-- b: the first byte from p on that is no blank, or the end -/
def gBb (f : Nat → Int32) (n p b : Nat) : Prop := p ≤ b ∧ b ≤ n ∧ (∀ j, p ≤ j → j < b → gBl (f j)) ∧ (b < n → ¬ gBl (f b))
theorem gBb_u {f : Nat → Int32} {n p b c : Nat} (h : gBb f n p b) (k : gBb f n p c) : b = c := by
  rcases Nat.lt_trichotomy b c with q | q | q
  · exact absurd (k.2.2.1 b h.1 q) (h.2.2.2 (Nat.lt_of_lt_of_le q k.2.1))
  · exact q
  · exact absurd (h.2.2.1 c k.1 q) (k.2.2.2 (Nat.lt_of_lt_of_le q h.2.1))
def gRn (P : Int32 → Prop) (f : Nat → Int32) (n b e : Nat) : Prop := (∀ j, b ≤ j → j < e → P (f j)) ∧ (e < n → ¬ P (f e))
theorem gRn_u {P : Int32 → Prop} {f : Nat → Int32} {n b e c : Nat} (h : gRn P f n b e) (k : gRn P f n b c) (h1 : b ≤ e) (k1 : b ≤ c) (h2 : e ≤ n) (k2 : c ≤ n) : e = c := by
  rcases Nat.lt_trichotomy e c with q | q | q
  · exact absurd (k.1 e h1 q) (h.2 (by omega))
  · exact q
  · exact absurd (h.1 c k1 q) (k.2 (by omega))
/-- e: behind the run of letters, of digits, or behind the one char at b -/
def gBr (f : Nat → Int32) (n b e : Nat) : Prop := b < e ∧ e ≤ n ∧ (gLe (f b) → gRn gLe f n b e) ∧ (gDi (f b) → gRn gDi f n b e) ∧ (¬ gLe (f b) → ¬ gDi (f b) → e = b + 1)
theorem gBr_u {f : Nat → Int32} {n b e c : Nat} (h : gBr f n b e) (k : gBr f n b c) : e = c := by
  obtain ⟨h1, h2, h3, h4, h5⟩ := h
  obtain ⟨k1, k2, k3, k4, k5⟩ := k
  by_cases q : gLe (f b)
  · exact gRn_u (h3 q) (k3 q) (by omega) (by omega) h2 k2
  · by_cases r : gDi (f b)
    · exact gRn_u (h4 r) (k4 r) (by omega) (by omega) h2 k2
    · rw [h5 q r, k5 q r]
theorem gLD {x : Int32} (h : gLe x) (k : gDi x) : False := absurd (Int32.le_trans (Int32.not_lt.mp h.1) (Int32.not_lt.mp k.2)) (by decide)
def gDg (x : Int32) : Nat := x.toInt.toNat - 48
theorem gDg_n {d : Nat} (h : d ≤ 9) : gDg (nI (48 + d)) = d := by
  unfold gDg
  rw [nI_toInt (by omega)]
  omega
/-- the number that m digits from b on spell -/
def rNm (f : Nat → Int32) (b : Nat) : Nat → Nat
  | 0 => 0
  | m + 1 => rNm f b m * 10 + gDg (f (b + m))
theorem rNm_s {f : Nat → Int32} {b i d m1 : Nat} (hi : b ≤ i) (h : m1 = rNm f b (i - b)) (e : f i = nI (48 + d)) (hd : d ≤ 9) : m1 * 10 + d = rNm f b (i + 1 - b) := by
  have e1 : i + 1 - b = (i - b) + 1 := by omega
  rw [e1]
  show _ = rNm f b (i - b) * 10 + gDg (f (b + (i - b)))
  rw [show b + (i - b) = i by omega, e, gDg_n hd, ← h]
/-- a TOKEN: sought from p on, it goes up to e, is of kind q, begins at s; v its number -/
def gT1 (f : Nat → Int32) (n p e q : Nat) (s v : Int32) : Prop := ∃ b, s = nI b ∧ gBb f n p b ∧ ((b = n ∧ q = 21) ∨ (b < n ∧ gBr f n b e ∧ gKd f b e q ∧ (q = 16 → v = nI (rNm f b (e - b)))))
/-- the table of the TOKENS, up to the first that is none -/
def gTS (f : Nat → Int32) (n : Nat) (Kd : Nat → Nat) (sf nf : Nat → Int32) (E : Nat → Nat) : Prop := E 0 = 0 ∧ ∀ t, t ≤ 500 → (∀ u, u < t → Kd u < 21) → gT1 f n (E t) (E (t + 1)) (Kd t) (sf t) (nf t)
def gTi (f : Nat → Int32) (n : Nat) (Kd : Nat → Nat) (sf nf : Nat → Int32) (E : Nat → Nat) (m fr : Nat) : Prop := E 0 = 0 ∧ E m = fr ∧ ∀ t, t < m → Kd t < 21 ∧ gT1 f n (E t) (E (t + 1)) (Kd t) (sf t) (nf t)
theorem gTi_s {f : Nat → Int32} {n : Nat} {Kd : Nat → Nat} {sf nf : Nat → Int32} {E : Nat → Nat} {m fr e q : Nat} {s v : Int32} (h : gTi f n Kd sf nf E m fr) (hq : q < 21) (h1 : gT1 f n fr e q s v) : gTi f n (updN Kd m q) (upd sf m s) (upd nf m v) (updN E (m + 1) e) (m + 1) e := by
  obtain ⟨a, b, c⟩ := h
  refine ⟨by rw [updN_n (by omega)]; exact a, updN_s, fun t ht => ?_⟩
  by_cases q' : t = m
  · subst q'
    rw [updN_s, updN_s, pk_us, pk_us, updN_n (show t ≠ t + 1 by omega), b]
    exact ⟨hq, h1⟩
  · rw [updN_n q', pk_un q', pk_un q', updN_n (show t ≠ m + 1 by omega), updN_n (show t + 1 ≠ m + 1 by omega)]
    exact c t (by omega)
theorem gTS_e {f : Nat → Int32} {n : Nat} {Kd : Nat → Nat} {sf nf : Nat → Int32} {E : Nat → Nat} {m fr e q : Nat} {s : Int32} (h : gTi f n Kd sf nf E m fr) (hq : 21 ≤ q) (h1 : gT1 f n fr e q s (nf m)) : gTS f n (updN Kd m q) (upd sf m s) nf (updN E (m + 1) e) := by
  obtain ⟨a, b, c⟩ := h
  refine ⟨by rw [updN_n (by omega)]; exact a, fun t ht hu => ?_⟩
  have hle : t ≤ m := by
    apply Nat.le_of_not_lt
    intro hlt
    have := hu m hlt
    rw [updN_s] at this
    omega
  by_cases q' : t = m
  · subst q'
    rw [updN_s, updN_s, pk_us, updN_n (show t ≠ t + 1 by omega), b]
    exact h1
  · rw [updN_n q', pk_un q', updN_n (show t ≠ m + 1 by omega), updN_n (show t + 1 ≠ m + 1 by omega)]
    exact (c t (by omega)).2
theorem gTS_f {f : Nat → Int32} {n : Nat} {Kd : Nat → Nat} {sf nf : Nat → Int32} {E : Nat → Nat} {m fr : Nat} (h : gTi f n Kd sf nf E m fr) (hm : 501 ≤ m) : gTS f n Kd sf nf E := ⟨h.1, fun t ht _ => (h.2.2 t (by omega)).2⟩
theorem gT1_e {f : Nat → Int32} {n p e b : Nat} {v : Int32} (h : gBb f n p b) (hb : n ≤ b) : gT1 f n p e 21 (nI b) v := ⟨b, rfl, h, Or.inl ⟨Nat.le_antisymm h.2.1 hb, rfl⟩⟩
theorem gT1_t {f : Nat → Int32} {n p e q b : Nat} {v : Int32} (h : gBb f n p b) (hb : b < n) (hr : gBr f n b e) (hk : gKd f b e q) (hv : q = 16 → v = nI (rNm f b (e - b))) : gT1 f n p e q (nI b) v := ⟨b, rfl, h, Or.inr ⟨hb, hr, hk, hv⟩⟩
theorem gKd_lt {f : Nat → Int32} {b e q : Nat} (h : gKd f b e q) (hq : ¬ q = 22) : q < 21 := by
  unfold gKd gWk at h
  rcases h with ⟨_, ⟨h, _⟩ | ⟨h, _⟩⟩ | ⟨_, _, ⟨_, h⟩ | ⟨_, h⟩⟩ | ⟨_, _, ⟨_, h⟩ | ⟨_, h⟩ | ⟨_, h⟩ | ⟨_, h⟩ | ⟨_, _, _, _, h⟩⟩ <;> omega
theorem gKd_16 {f : Nat → Int32} {b e q : Nat} (h : gKd f b e q) (hq : q = 16) : gDi (f b) ∧ e - b ≤ 3 := by
  unfold gKd gWk at h
  rcases h with ⟨_, ⟨h, _⟩ | ⟨h, _⟩⟩ | ⟨_, h3, ⟨h1, h⟩ | ⟨_, h⟩⟩ | ⟨_, _, ⟨_, h⟩ | ⟨_, h⟩ | ⟨_, h⟩ | ⟨_, h⟩ | ⟨_, _, _, _, h⟩⟩
  · omega
  · omega
  · exact ⟨h3, h1⟩
  all_goals omega
theorem gKd_22 {f : Nat → Int32} {b e q : Nat} (h : gKd f b e q) : q ≤ 22 := by
  by_cases h22 : q = 22
  · omega
  · have := gKd_lt h h22; omega
/- the grammar over the table: (fault, TOKEN) -/
def rTake (Kd : Nat → Nat) (x t : Nat) : Nat × Nat := if Kd t = x then (if t < 500 then (0, t + 1) else (2, t)) else (1, t)
def rB (a : Nat × Nat) (g : Nat → Nat × Nat) : Nat × Nat := if a.1 = 0 then g a.2 else a
def rReg (Kd : Nat → Nat) (t : Nat) : Nat × Nat := if 13 ≤ Kd t ∧ Kd t ≤ 15 then rTake Kd (Kd t) t else (1, t)
def rInt (Kd : Nat → Nat) (t : Nat) : Nat × Nat := if Kd t = 20 then rB (rTake Kd 20 t) (rTake Kd 16) else rTake Kd 16 t
def rVal (Kd : Nat → Nat) (t : Nat) : Nat × Nat := if 13 ≤ Kd t ∧ Kd t ≤ 15 then rTake Kd (Kd t) t else rInt Kd t
def rSkp (Kd : Nat → Nat) (t : Nat) : Nat × Nat := rB (rTake Kd 12 t) (rTake Kd 16)
def vInt (Kd : Nat → Nat) (nf : Nat → Int32) (t : Nat) : Int32 := if Kd t = 20 then - nf (t + 1) else nf t
def vRg (Kd : Nat → Nat) (t : Nat) : Int32 := if 13 ≤ Kd t ∧ Kd t ≤ 15 then nI (Kd t - 13) else (-1)
def vVl (Kd : Nat → Nat) (nf : Nat → Int32) (t : Nat) : Int32 := if 13 ≤ Kd t ∧ Kd t ≤ 15 then 0 else vInt Kd nf t
def rNote (lp s : Int32) : Int32 := if lp = (-1) ∨ s < lp then s else lp
/-- the parts of an INS by letters: 0 REG, 1 CELL, 2 VAL, 3 second VAL, 4 skip -/
def rPt (Kd : Nat → Nat) : Nat → Nat → Nat × Nat
  | 0, t => rReg Kd t
  | 1, t => rTake Kd 16 t
  | 4, t => rSkp Kd t
  | _, t => rVal Kd t
def rPp (Kd : Nat → Nat) (nf : Nat → Int32) : Nat → Nat → (Nat → Int32) → Nat → Int32
  | 0, t, ps => upd ps 2 (nI (Kd t - 13))
  | 1, t, ps => upd ps 1 (nf t)
  | 2, t, ps => upd (upd ps 3 (vRg Kd t)) 4 (vVl Kd nf t)
  | 3, t, ps => upd (upd ps 5 (vRg Kd t)) 6 (vVl Kd nf t)
  | _, t, ps => upd ps 7 (nf (t + 1))
def rPl (sf nf : Nat → Int32) : Nat → Nat → Int32 → Int32
  | 1, t, lp => if nf t < 4 then lp else rNote lp (sf t)
  | _, _, lp => lp
def rIn (Kd : Nat → Nat) (sf nf : Nat → Int32) : List Nat → Nat → (Nat → Int32) → Int32 → (Nat × Nat) × (Nat → Int32) × Int32
  | [], t, ps, lp => ((0, t), ps, lp)
  | a :: L, t, ps, lp => if (rPt Kd a t).1 = 0 then rIn Kd sf nf L (rPt Kd a t).2 (rPp Kd nf a t ps) (rPl sf nf a t lp) else (rPt Kd a t, ps, lp)
theorem rIn_ok {Kd : Nat → Nat} {sf nf : Nat → Int32} {a t t1 : Nat} {L : List Nat} {ps : Nat → Int32} {lp : Int32} (h : rPt Kd a t = (0, t1)) : rIn Kd sf nf (a :: L) t ps lp = rIn Kd sf nf L t1 (rPp Kd nf a t ps) (rPl sf nf a t lp) := by
  show (if (rPt Kd a t).1 = 0 then _ else _) = _
  rw [h]
  exact if_pos rfl
theorem rIn_no {Kd : Nat → Nat} {sf nf : Nat → Int32} {a t : Nat} {L : List Nat} {ps : Nat → Int32} {lp : Int32} (h : (rPt Kd a t).1 ≠ 0) : rIn Kd sf nf (a :: L) t ps lp = (rPt Kd a t, ps, lp) := if_neg h
def rSh (q : Nat) : List Nat := [[0, 1], [1, 2], [0, 2], [0, 2], [], [0, 1], [0, 1, 2], [0, 1, 2, 3], [0, 4]].getD q []
def rBk (q : Nat) : Nat → Int32 := fun j => if j = 0 then nI q else if j = 4 ∨ j = 6 ∨ j = 7 then 0 else (-1)
/-- an INS whose word stands at t: (fault, TOKEN), its parts, the late fault, the TOKEN ahead of its end -/
def rI1 (Kd : Nat → Nat) (sf nf : Nat → Int32) (t : Nat) (lp : Int32) : (Nat × Nat) × (Nat → Int32) × Int32 × Nat :=
  if t < 500 then
    (if (rIn Kd sf nf (rSh (Kd t)) (t + 1) (rBk (Kd t)) lp).1.1 = 0 then (rTake Kd 18 (rIn Kd sf nf (rSh (Kd t)) (t + 1) (rBk (Kd t)) lp).1.2, (rIn Kd sf nf (rSh (Kd t)) (t + 1) (rBk (Kd t)) lp).2.1, (rIn Kd sf nf (rSh (Kd t)) (t + 1) (rBk (Kd t)) lp).2.2, (rIn Kd sf nf (rSh (Kd t)) (t + 1) (rBk (Kd t)) lp).1.2 - 1) else ((rIn Kd sf nf (rSh (Kd t)) (t + 1) (rBk (Kd t)) lp).1, rBk 0, lp, 0))
  else ((2, t), rBk 0, lp, 0)
theorem rI1_ok {Kd : Nat → Nat} {sf nf : Nat → Int32} {t t1 : Nat} {lp lp1 : Int32} {ps : Nat → Int32} (ht : t < 500) (h : rIn Kd sf nf (rSh (Kd t)) (t + 1) (rBk (Kd t)) lp = ((0, t1), ps, lp1)) : rI1 Kd sf nf t lp = (rTake Kd 18 t1, ps, lp1, t1 - 1) := by
  unfold rI1
  rw [if_pos ht, h]
  exact if_pos rfl
theorem rI1_no {Kd : Nat → Nat} {sf nf : Nat → Int32} {t : Nat} {lp lp1 : Int32} {a : Nat × Nat} {ps : Nat → Int32} (ht : t < 500) (h : rIn Kd sf nf (rSh (Kd t)) (t + 1) (rBk (Kd t)) lp = (a, ps, lp1)) (ha : a.1 ≠ 0) : (rI1 Kd sf nf t lp).1 = a := by
  unfold rI1
  rw [if_pos ht, h, if_neg ha]
theorem rI1_r {Kd : Nat → Nat} {sf nf : Nat → Int32} {t : Nat} {lp : Int32} (ht : ¬ t < 500) : rI1 Kd sf nf t lp = ((2, t), rBk 0, lp, 0) := if_neg ht
/-- eight ints at n -/
def rW8 (Q : Nat → Int32) (n : Nat) (ps : Nat → Int32) : Nat → Int32 := fun x => if n ≤ x ∧ x < n + 8 then ps (x - n) else Q x
theorem rW8_mk {P Q ps : Nat → Int32} {n : Nat} (h : ∀ j, j < 8 → P (n + j) = ps j) (hf : ∀ x, (x < n ∨ n + 8 ≤ x) → P x = Q x) : P = rW8 Q n ps := by
  funext x
  unfold rW8
  by_cases e : n ≤ x ∧ x < n + 8
  · rw [if_pos e, ← h (x - n) (by omega)]
    congr 1
    omega
  · rw [if_neg e]
    exact hf x (by omega)
theorem rW8_in {Q ps : Nat → Int32} {n j : Nat} (h : j < 8) : rW8 Q n ps (n + j) = ps j := by
  unfold rW8
  rw [if_pos ⟨by omega, by omega⟩]
  congr 1
  omega
theorem rW8_out {Q ps : Nat → Int32} {n x : Nat} (h : x < n ∨ n + 8 ≤ x) : rW8 Q n ps x = Q x := if_neg (by omega)
/-- the INS of CORE k from the i-th on, m more may come -/
def rIs (Kd : Nat → Nat) (sf nf : Nat → Int32) (k : Nat) : Nat → Nat → Nat → Int32 → (Nat → Int32) → (Nat → Nat) → (Nat × Nat) × Nat × Int32 × (Nat → Int32) × (Nat → Nat)
  | 0, i, t, lp, Q, Tk => ((if Kd t ≤ 8 then 2 else 0, t), i, lp, Q, Tk)
  | m + 1, i, t, lp, Q, Tk => if Kd t ≤ 8 then
      (if (rI1 Kd sf nf t lp).1.1 = 0 then rIs Kd sf nf k m (i + 1) (rI1 Kd sf nf t lp).1.2 (rI1 Kd sf nf t lp).2.2.1 (rW8 Q (((k * 8) + i) * 8) (rI1 Kd sf nf t lp).2.1) (updN Tk i (rI1 Kd sf nf t lp).2.2.2) else ((rI1 Kd sf nf t lp).1, i, lp, Q, Tk))
    else ((0, t), i, lp, Q, Tk)
theorem rIs_ok {Kd : Nat → Nat} {sf nf : Nat → Int32} {k m i t t1 : Nat} {lp : Int32} {Q : Nat → Int32} {Tk : Nat → Nat} (hq : Kd t ≤ 8) (h : (rI1 Kd sf nf t lp).1 = (0, t1)) : rIs Kd sf nf k (m + 1) i t lp Q Tk = rIs Kd sf nf k m (i + 1) t1 (rI1 Kd sf nf t lp).2.2.1 (rW8 Q (((k * 8) + i) * 8) (rI1 Kd sf nf t lp).2.1) (updN Tk i (rI1 Kd sf nf t lp).2.2.2) := by
  show (if Kd t ≤ 8 then _ else _) = _
  rw [if_pos hq, h]
  exact if_pos rfl
theorem rIs_no {Kd : Nat → Nat} {sf nf : Nat → Int32} {k m i t : Nat} {lp : Int32} {Q : Nat → Int32} {Tk : Nat → Nat} (hq : Kd t ≤ 8) (h : (rI1 Kd sf nf t lp).1.1 ≠ 0) : (rIs Kd sf nf k (m + 1) i t lp Q Tk).1 = (rI1 Kd sf nf t lp).1 := by
  show (if Kd t ≤ 8 then _ else _ : (Nat × Nat) × Nat × Int32 × (Nat → Int32) × (Nat → Nat)).1 = _
  rw [if_pos hq, if_neg h]
theorem rIs_e {Kd : Nat → Nat} {sf nf : Nat → Int32} {k m i t : Nat} {lp : Int32} {Q : Nat → Int32} {Tk : Nat → Nat} (hq : ¬ Kd t ≤ 8) : rIs Kd sf nf k m i t lp Q Tk = ((0, t), i, lp, Q, Tk) := by
  cases m with
  | zero =>
    show ((if Kd t ≤ 8 then 2 else 0, t), i, lp, Q, Tk) = _
    rw [if_neg hq]
  | succ m => exact if_neg hq
theorem rIs_f {Kd : Nat → Nat} {sf nf : Nat → Int32} {k i t : Nat} {lp : Int32} {Q : Nat → Int32} {Tk : Nat → Nat} (hq : Kd t ≤ 8) : (rIs Kd sf nf k 0 i t lp Q Tk).1 = (2, t) := by
  show (if Kd t ≤ 8 then 2 else 0, t) = _
  rw [if_pos hq]
/-- the skips that lead too far, among the first i of n INS -/
def rSn (sf : Nat → Int32) (k n : Nat) (Q : Nat → Int32) (Tk : Nat → Nat) (lp : Int32) : Nat → Int32
  | 0 => lp
  | i + 1 => if Q ((((k * 8) + i) * 8) + 7) ≤ nI (n - 1 - i) then rSn sf k n Q Tk lp i else rNote (rSn sf k n Q Tk lp i) (sf (Tk i))
/-- a CORE: (fault, TOKEN), how many INS, the late fault, the parts, the TOKENS of the skips -/
def rC1 (Kd : Nat → Nat) (sf nf : Nat → Int32) (k t : Nat) (lp : Int32) (Q : Nat → Int32) (Tk : Nat → Nat) : (Nat × Nat) × Nat × Int32 × (Nat → Int32) × (Nat → Nat) :=
  (rB (rB (rB (rTake Kd 10 t) (rTake Kd 17)) (fun t2 => (rIs Kd sf nf k 6 0 t2 lp Q Tk).1)) (rTake Kd 11),
    (rIs Kd sf nf k 6 0 (t + 2) lp Q Tk).2.1,
    rSn sf k (rIs Kd sf nf k 6 0 (t + 2) lp Q Tk).2.1 (rIs Kd sf nf k 6 0 (t + 2) lp Q Tk).2.2.2.1 (rIs Kd sf nf k 6 0 (t + 2) lp Q Tk).2.2.2.2 (rIs Kd sf nf k 6 0 (t + 2) lp Q Tk).2.2.1 (rIs Kd sf nf k 6 0 (t + 2) lp Q Tk).2.1,
    (rIs Kd sf nf k 6 0 (t + 2) lp Q Tk).2.2.2.1, (rIs Kd sf nf k 6 0 (t + 2) lp Q Tk).2.2.2.2)
/-- the CORES from k on, m more may come: (fault, TOKEN), how many, the late fault, parts, how long each is -/
def rCo (Kd : Nat → Nat) (sf nf : Nat → Int32) : Nat → Nat → Nat → Int32 → (Nat → Int32) → (Nat → Nat) → (Nat → Nat) → (Nat × Nat) × Nat × Int32 × (Nat → Int32) × (Nat → Nat)
  | 0, k, t, lp, Q, _, L => ((if Kd t = 21 then 0 else if Kd t = 10 then 2 else 1, t), k, lp, Q, L)
  | m + 1, k, t, lp, Q, Tk, L => if ¬ k = 0 ∧ Kd t = 21 then ((0, t), k, lp, Q, L) else
      (if (rC1 Kd sf nf k t lp Q Tk).1.1 = 0 then rCo Kd sf nf m (k + 1) (rC1 Kd sf nf k t lp Q Tk).1.2 (rC1 Kd sf nf k t lp Q Tk).2.2.1 (rC1 Kd sf nf k t lp Q Tk).2.2.2.1 (rC1 Kd sf nf k t lp Q Tk).2.2.2.2 (updN L k (rC1 Kd sf nf k t lp Q Tk).2.1) else ((rC1 Kd sf nf k t lp Q Tk).1, k, lp, Q, L))
/-- a CELL's line -/
def rCl (Kd : Nat → Nat) (t : Nat) : Nat × Nat := rB (rB (rB (rB (rTake Kd 9 t) (rTake Kd 16)) (rTake Kd 19)) (rInt Kd)) (rTake Kd 18)
def rTb (tl x : Int32) : Nat := (tl >>> (x &&& 31)).toBitVec.toNat % 2
def rCp (sf nf : Nat → Int32) (t : Nat) (tl lp : Int32) : Int32 := if nf (t + 1) < 4 then (if rTb tl (nf (t + 1)) = 0 then lp else rNote lp (sf (t + 1))) else rNote lp (sf (t + 1))
def rCt (nf : Nat → Int32) (t : Nat) (tl : Int32) : Int32 := if nf (t + 1) < 4 then tl ||| ((1 : Int32) <<< (nf (t + 1) &&& 31)) else tl
def rCf (Kd : Nat → Nat) (nf : Nat → Int32) (t : Nat) (cf : Nat → Int32) : Nat → Int32 := if nf (t + 1) < 4 then upd cf (nf (t + 1)).toNatClampNeg (vInt Kd nf (t + 3)) else cf
/-- the CELLS' lines, m more may come -/
def rCs (Kd : Nat → Nat) (sf nf : Nat → Int32) : Nat → Nat → Int32 → Int32 → (Nat → Int32) → (Nat × Nat) × Int32 × (Nat → Int32)
  | 0, t, lp, _, cf => ((0, t), lp, cf)
  | m + 1, t, lp, tl, cf => if Kd t = 9 then
      (if (rCl Kd t).1 = 0 then rCs Kd sf nf m (rCl Kd t).2 (rCp sf nf t tl lp) (rCt nf t tl) (rCf Kd nf t cf) else (rCl Kd t, lp, cf))
    else ((0, t), lp, cf)
theorem rCs_ok {Kd : Nat → Nat} {sf nf : Nat → Int32} {m t t1 : Nat} {lp tl : Int32} {cf : Nat → Int32} (hq : Kd t = 9) (h : rCl Kd t = (0, t1)) : rCs Kd sf nf (m + 1) t lp tl cf = rCs Kd sf nf m t1 (rCp sf nf t tl lp) (rCt nf t tl) (rCf Kd nf t cf) := by
  show (if Kd t = 9 then _ else _) = _
  rw [if_pos hq, h]
  exact if_pos rfl
theorem rCs_no {Kd : Nat → Nat} {sf nf : Nat → Int32} {m t : Nat} {lp tl : Int32} {cf : Nat → Int32} (hq : Kd t = 9) (h : (rCl Kd t).1 ≠ 0) : (rCs Kd sf nf (m + 1) t lp tl cf).1 = rCl Kd t := by
  show (if Kd t = 9 then _ else _ : (Nat × Nat) × Int32 × (Nat → Int32)).1 = _
  rw [if_pos hq, if_neg h]
theorem rCs_e {Kd : Nat → Nat} {sf nf : Nat → Int32} {m t : Nat} {lp tl : Int32} {cf : Nat → Int32} (hq : ¬ Kd t = 9) : rCs Kd sf nf m t lp tl cf = ((0, t), lp, cf) := by
  cases m with
  | zero => rfl
  | succ m => exact if_neg hq
/-- the text: (fault, TOKEN), how many CORES, the late fault, parts, how long each is, the CELLS -/
def rTx (Kd : Nat → Nat) (sf nf : Nat → Int32) (Q : Nat → Int32) (Tk : Nat → Nat) : (Nat × Nat) × Nat × Int32 × (Nat → Int32) × (Nat → Nat) × (Nat → Int32) :=
  (rB (rCs Kd sf nf 501 0 (-1) 0 (fun _ => 0)).1 (fun t1 => (rCo Kd sf nf 3 0 t1 (rCs Kd sf nf 501 0 (-1) 0 (fun _ => 0)).2.1 Q Tk (fun _ => 0)).1),
    (rCo Kd sf nf 3 0 (rCs Kd sf nf 501 0 (-1) 0 (fun _ => 0)).1.2 (rCs Kd sf nf 501 0 (-1) 0 (fun _ => 0)).2.1 Q Tk (fun _ => 0)).2.1,
    (rCo Kd sf nf 3 0 (rCs Kd sf nf 501 0 (-1) 0 (fun _ => 0)).1.2 (rCs Kd sf nf 501 0 (-1) 0 (fun _ => 0)).2.1 Q Tk (fun _ => 0)).2.2.1,
    (rCo Kd sf nf 3 0 (rCs Kd sf nf 501 0 (-1) 0 (fun _ => 0)).1.2 (rCs Kd sf nf 501 0 (-1) 0 (fun _ => 0)).2.1 Q Tk (fun _ => 0)).2.2.2.1,
    (rCo Kd sf nf 3 0 (rCs Kd sf nf 501 0 (-1) 0 (fun _ => 0)).1.2 (rCs Kd sf nf 501 0 (-1) 0 (fun _ => 0)).2.1 Q Tk (fun _ => 0)).2.2.2.2,
    (rCs Kd sf nf 501 0 (-1) 0 (fun _ => 0)).2.2)
/- what a reading method answers -/
def rOut (a : Nat × Nat) (t9 : Nat) (s z fv pv fv9 pv9 : Int32) : Prop := a.2 = t9 ∧ ((a.1 = 0 ∧ z = 1 ∧ fv9 = fv ∧ pv9 = pv) ∨ (a.1 ≠ 0 ∧ z = 0 ∧ fv9 = nI a.1 ∧ pv9 = s))
section RO
variable {a : Nat × Nat} {g : Nat → Nat × Nat} {t t1 t9 x : Nat} {s s1 z z1 fv pv fv1 pv1 fv9 pv9 : Int32} {Kd : Nat → Nat}
theorem rOut_y (h : rOut a t9 s z fv pv fv9 pv9) (hz : ¬ z = 0) : a = (0, t9) ∧ fv9 = fv ∧ pv9 = pv := by
  obtain ⟨h1, h2 | h2⟩ := h
  · exact ⟨Prod.ext h2.1 h1, h2.2.2.1, h2.2.2.2⟩
  · exact absurd h2.2.1 hz
theorem rOut_n (h : rOut a t9 s z fv pv fv9 pv9) (hz : z = 0) : a.1 ≠ 0 := by
  obtain ⟨h1, h2 | h2⟩ := h
  · exact absurd (hz.symm.trans h2.2.1) (by decide)
  · exact h2.1
theorem rOut_0 (h : rOut a t9 s z fv pv fv9 pv9) (hz : z = 0) : rOut a t9 s 0 fv pv fv9 pv9 := by
  subst hz
  exact h
theorem rOut_1 (h : rOut a t9 s z fv pv fv9 pv9) (hz : ¬ z = 0) : rOut a t9 s 1 fv pv fv9 pv9 := by
  obtain ⟨h1, h2 | h2⟩ := h
  · exact ⟨h1, Or.inl ⟨h2.1, rfl, h2.2.2⟩⟩
  · exact absurd h2.2.1 hz
theorem rOut_seq (h1 : rOut a t1 s1 z1 fv pv fv1 pv1) (hz : ¬ z1 = 0) (h2 : rOut (g t1) t9 s z fv1 pv1 fv9 pv9) : rOut (rB a g) t9 s z fv pv fv9 pv9 := by
  obtain ⟨ha, e1, e2⟩ := rOut_y h1 hz
  rw [ha]
  rw [e1, e2] at h2
  exact h2
theorem rOut_stp (h : rOut a t9 s z fv pv fv9 pv9) (hz : z = 0) : rOut (rB a g) t9 s 0 fv pv fv9 pv9 := by
  have hn := rOut_n h hz
  unfold rB
  rw [if_neg hn]
  exact rOut_0 h hz
theorem rOut_e {b : Nat × Nat} (e : a = b) (h : rOut a t9 s z fv pv fv9 pv9) : rOut b t9 s z fv pv fv9 pv9 := e ▸ h
theorem rTk_a (h : ¬ Kd t = x) : rOut (rTake Kd x t) t s 0 fv pv 1 s := by
  unfold rTake
  rw [if_neg h]
  exact ⟨rfl, Or.inr ⟨Nat.one_ne_zero, rfl, rfl, rfl⟩⟩
theorem rTk_b (h : Kd t = x) (h5 : ¬ t < 500) : rOut (rTake Kd x t) t s 0 fv pv 2 s := by
  unfold rTake
  rw [if_pos h, if_neg h5]
  exact ⟨rfl, Or.inr ⟨Nat.succ_ne_zero 1, rfl, rfl, rfl⟩⟩
theorem rTk_c (h : Kd t = x) (h5 : t < 500) : rOut (rTake Kd x t) (t + 1) s 1 fv pv fv pv := by
  unfold rTake
  rw [if_pos h, if_pos h5]
  exact ⟨rfl, Or.inl ⟨rfl, rfl, rfl, rfl⟩⟩
theorem rReg_n (h : ¬ (13 ≤ Kd t ∧ Kd t ≤ 15)) : rOut (rReg Kd t) t s 0 fv pv 1 s := by
  unfold rReg
  rw [if_neg h]
  exact ⟨rfl, Or.inr ⟨Nat.one_ne_zero, rfl, rfl, rfl⟩⟩
theorem rReg_y (h : 13 ≤ Kd t ∧ Kd t ≤ 15) : rTake Kd (Kd t) t = rReg Kd t := (if_pos h).symm
theorem rVal_y (h : 13 ≤ Kd t ∧ Kd t ≤ 15) : rTake Kd (Kd t) t = rVal Kd t := (if_pos h).symm
theorem rVal_n (h : ¬ (13 ≤ Kd t ∧ Kd t ≤ 15)) : rInt Kd t = rVal Kd t := (if_neg h).symm
theorem rInt_m (h : Kd t = 20) : rB (rTake Kd 20 t) (rTake Kd 16) = rInt Kd t := (if_pos h).symm
theorem rInt_n (h : ¬ Kd t = 20) : rTake Kd 16 t = rInt Kd t := (if_neg h).symm
end RO
