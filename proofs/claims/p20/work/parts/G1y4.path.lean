
/-! SCHEDULES: l steps ps lead from the first STATE to n -/
def gPth (cm : Nat → Int32) (ps : Nat → Nat) : Nat → Nat → Prop
  | 0, n => cm n = (-1)
  | l + 1, n => ∃ p q, p < n ∧ q < 6 ∧ cm n = nI (p * 8 + q) ∧ ps l = q ∧ gPth cm ps l p
def gPt9 (fr bf : Nat → Int32) (b : Nat) (ps : Nat → Nat) : Nat → Nat → Prop
  | 0, n => fr (b + n) = (-1)
  | l + 1, n => ∃ p q, p < n ∧ q < 6 ∧ fr (b + n) = nI p ∧ bf (b + n) = nI q ∧ ps l = q ∧ gPt9 fr bf b ps l p
/-- what is answered to: step x of a SCHEDULE of l steps ps -/
def gAn (l : Nat) (ps : Nat → Nat) (x z : Int32) : Prop := (∃ j, j < l ∧ x = nI j ∧ z = nI (ps j)) ∨ (z = (-1) ∧ ∀ j, j < l → ¬ x = nI j)
section PTH
variable {cm cm9 fr bf : Nat → Int32} {ps ps9 : Nat → Nat} {b : Nat}
theorem gPth_f : ∀ (l n : Nat), (∀ m, m ≤ n → cm9 m = cm m) → gPth cm ps l n → gPth cm9 ps l n
  | 0, n, h, q => (h n (Nat.le_refl _)).trans q
  | l + 1, n, h, ⟨p, q, a, c, d, e, f⟩ => ⟨p, q, a, c, (h n (Nat.le_refl _)).trans d, e, gPth_f l p (fun m hm => h m (by omega)) f⟩
theorem gPth_p : ∀ (l n : Nat), (∀ j, j < l → ps9 j = ps j) → gPth cm ps l n → gPth cm ps9 l n
  | 0, _, _, q => q
  | l + 1, n, h, ⟨p, q, a, c, d, e, f⟩ => ⟨p, q, a, c, d, (h l (Nat.lt_succ_self l)).trans e, gPth_p l p (fun j hj => h j (by omega)) f⟩
theorem gPth_6 : ∀ (l n : Nat), gPth cm ps l n → ∀ j, j < l → ps j < 6
  | 0, _, _, j, hj => absurd hj (Nat.not_lt_zero j)
  | l + 1, n, ⟨p, q, _, c, _, e, f⟩, j, hj => by
    by_cases k : j = l
    · rw [k, e]; exact c
    · exact gPth_6 l p f j (by omega)
theorem b9_pt {T : bT} {m8 : Int32} {nc s N : Nat} {sf : Nat → Int32} (h : b9 T m8 nc s N sf fr bf) (hN : N ≤ 3000) : ∀ (l n : Nat), n < N → gPth T.2.2.1 ps l n → gPt9 fr bf (3000 * s) ps l n
  | 0, n, hn, q => by
    rcases h.2.2.2 n hn with ⟨_, a⟩ | ⟨p, q9, c, d, e, _⟩
    · exact a
    · have k : nI (p * 8 + q9) = (-1) := e.symm.trans q
      exact absurd (show nI (p * 8 + q9) < 0 by rw [k]; decide) (nI_pos (by omega))
  | l + 1, n, hn, ⟨p, q, a, c, d, e, f⟩ => by
    rcases h.2.2.2 n hn with ⟨k, _⟩ | ⟨p9, q9, c9, d9, e9, f9, g9⟩
    · have k : nI (p * 8 + q) = (-1) := d.symm.trans k
      exact absurd (show nI (p * 8 + q) < 0 by rw [k]; decide) (nI_pos (by omega))
    · have k := (nI_eq (by omega) (by omega)).mp (d.symm.trans e9)
      have k1 : p9 = p := by omega
      have k2 : q9 = q := by omega
      subst k1; subst k2
      exact ⟨p9, q9, a, c, f9, g9, e, b9_pt h hN l p9 (by omega) f⟩
end PTH
section PTB
variable {pf cf : Nat → Int32} {L : Nat → Nat} {nc : Nat} {m8 : Int32}
theorem bRun_P (hm : m8 = 0 ∨ m8 = 1 ∨ m8 = 2) (hG : bG pf L nc) : ∀ i n, n < (bRun pf cf L nc m8 i).1 → ∃ (l : Nat) (ps : Nat → Nat), gPth (bRun pf cf L nc m8 i).2.2.1 ps l n ∧ bI pf L nc m8 l ((bRun pf cf L nc m8 i).2.1 n)
  | 0, n, _ => ⟨0, fun _ => 0, rfl, bI_0 hG.1⟩
  | i + 1, n, h => by
    have ih := bRun_P hm hG i
    by_cases c : (bRun pf cf L nc m8 i).2.2.2 = true ∧ i / 6 < (bRun pf cf L nc m8 i).1
    · rw [bRun_s c] at h ⊢
      have hp := ih (i / 6) c.2
      have hlt := c.2
      generalize bRun pf cf L nc m8 i = T at h ih hp hlt ⊢
      by_cases a : gCE (T.2.1 (i / 6)) pf L nc (nI (i % 6)) ∧ ¬ bSeen (gWd m8 nc) T.1 T.2.1 (gStep pf m8 (T.2.1 (i / 6)) (nI (i % 6)))
      · by_cases b : T.1 < 3000
        · rw [bCell_a a.1 a.2 b] at h ⊢
          have h : n < T.1 + 1 := h
          show ∃ (l : Nat) (ps : Nat → Nat), gPth (upd T.2.2.1 T.1 (nI ((i / 6) * 8 + i % 6))) ps l n ∧ bI pf L nc m8 l (bUp T.2.1 T.1 (gStep pf m8 (T.2.1 (i / 6)) (nI (i % 6))) n)
          by_cases e : n = T.1
          · rw [e, bUp_s]
            obtain ⟨l, ps, hd1, hd2⟩ := hp
            refine ⟨l + 1, updN ps l (i % 6), ⟨i / 6, i % 6, hlt, Nat.mod_lt _ (by decide), pk_us, updN_s, ?_⟩, bI_s hm hG hd2 a.1⟩
            exact gPth_f _ _ (fun m hm => pk_un (by omega)) (gPth_p _ _ (fun j hj => updN_n (by omega)) hd1)
          · rw [bUp_n e]
            obtain ⟨l, ps, hd1, hd2⟩ := ih n (by omega)
            exact ⟨l, ps, gPth_f _ _ (fun m hm => pk_un (by omega)) hd1, hd2⟩
        · rw [bCell_f a.1 a.2 b] at h ⊢
          exact ih n h
      · rw [bCell_k a] at h ⊢
        exact ih n h
    · have e := bRun_k c 1
      rw [e] at h ⊢
      exact ih n h
theorem bI_36 {l : Nat} {f : Nat → Int32} (hb : bI pf L nc m8 l f) (h6 : ∀ k, k < 3 → L k ≤ 6) : l ≤ 36 := by
  obtain ⟨w, nx, rz, cs, st, _, _, _, hn, hn0, hd⟩ := hb
  have key : ∀ k, k < 3 → nx k ≤ 6 := by
    intro k hk
    by_cases c : k < nc
    · exact Nat.le_trans (hn k c) (h6 k hk)
    · rw [hn0 k (by omega) hk]; decide
  have := key 0 (by decide)
  have := key 1 (by decide)
  have := key 2 (by decide)
  omega
/-- a SCHEDULE leads to n -/
def gPx (cm : Nat → Int32) (n : Nat) : Prop := ∃ (l : Nat) (ps : Nat → Nat), gPth cm ps l n ∧ l ≤ 36
theorem bFin_P {n : Nat} (hm : m8 = 0 ∨ m8 = 1 ∨ m8 = 2) (hG : bG pf L nc) (h6 : ∀ k, k < 3 → L k ≤ 6) (h : n < (bFin pf cf L nc m8).1) : gPx (bFin pf cf L nc m8).2.2.1 n := by
  rw [bFin_d] at h ⊢
  obtain ⟨l, ps, a, b⟩ := bRun_P hm hG 18000 n h
  exact ⟨l, ps, a, bI_36 b h6⟩
/-- no two STATES are one -/
theorem bRun_D : ∀ i a b, a < b → b < (bRun pf cf L nc m8 i).1 → ¬ gAg (gWd m8 nc) ((bRun pf cf L nc m8 i).2.1 a) ((bRun pf cf L nc m8 i).2.1 b)
  | 0, a, b, hab, hb => by
    have hb : b < 1 := hb
    omega
  | i + 1, a, b, hab, hb => by
    have ih := bRun_D i
    by_cases c : (bRun pf cf L nc m8 i).2.2.2 = true ∧ i / 6 < (bRun pf cf L nc m8 i).1
    · rw [bRun_s c] at hb ⊢
      generalize bRun pf cf L nc m8 i = T at hb ih ⊢
      by_cases q : gCE (T.2.1 (i / 6)) pf L nc (nI (i % 6)) ∧ ¬ bSeen (gWd m8 nc) T.1 T.2.1 (gStep pf m8 (T.2.1 (i / 6)) (nI (i % 6)))
      · by_cases p : T.1 < 3000
        · rw [bCell_a q.1 q.2 p] at hb ⊢
          have hb : b < T.1 + 1 := hb
          show ¬ gAg (gWd m8 nc) (bUp T.2.1 T.1 (gStep pf m8 (T.2.1 (i / 6)) (nI (i % 6))) a) (bUp T.2.1 T.1 (gStep pf m8 (T.2.1 (i / 6)) (nI (i % 6))) b)
          rw [bUp_n (by omega)]
          by_cases e : b = T.1
          · rw [e, bUp_s]
            exact fun w => q.2 ⟨a, by omega, w⟩
          · rw [bUp_n e]
            exact ih a b hab (by omega)
        · rw [bCell_f q.1 q.2 p] at hb ⊢
          exact ih a b hab hb
      · rw [bCell_k q] at hb ⊢
        exact ih a b hab hb
    · have e := bRun_k c 1
      rw [e] at hb ⊢
      exact ih a b hab hb
/-- where all has ended the OUTCOME tells the STATE (modes 0 and 1) -/
theorem bI_end {f g : Nat → Int32} {d d9 : Nat} (hm : ¬ m8 = 2) (h3 : nc ≤ 3) (h8 : ∀ k, k < 3 → L k ≤ 8) (hf : bI pf L nc m8 d f) (hg : bI pf L nc m8 d9 g) (ef : gEd f L nc) (eg : gEd g L nc) (h : ∀ j, j < 13 → f j = g j) : gAg (gWd m8 nc) f g := by
  obtain ⟨w, nx, rz, cs, st, hS, hM, _, hn, hn0, _⟩ := hf
  obtain ⟨w', nx', rz', cs', st', hS', hM', _, hn', hn0', _⟩ := hg
  have key : ∀ (u : Nat → Int32) (v : Nat → Int32) (nx rz cs st : Nat → Nat), rS u v nx rz cs st → rM m8 nc rz st → (∀ k, k < nc → nx k ≤ L k) → (∀ k, nc ≤ k → k < 3 → nx k = 0) → gEd u L nc → ∀ k, k < 3 → nx k = (if k < nc then L k else 0) ∧ rz k = 0 ∧ st k = 0 := by
    intro u v nx rz cs st hS hM hn hn0 he k hk
    have hst : st k = 0 := hM.2.1 hm k hk
    by_cases c : k < nc
    · have a := he k c
      obtain ⟨c1, c2, c3, c4, c5, _⟩ := hS.2 k hk
      have lo : gLo (u (13 + k)) = nx k + 16 * rz k := by
        rw [c1]
        unfold gLo
        rw [gPw_tn c2 (by omega) (gcs_12 c3 c4) c5]
        omega
      have := h8 k hk
      have := hn k c
      rw [if_pos c]
      exact ⟨by omega, by omega, hst⟩
    · rw [if_neg c]
      exact ⟨hn0 k (by omega) hk, hM.2.2 k (by omega) hk, hst⟩
  have k1 := key f w nx rz cs st hS hM hn hn0 ef
  have k2 := key g w' nx' rz' cs' st' hS' hM' hn' hn0' eg
  have hw := gWd_34 (m8 := m8) h3
  intro j hj
  by_cases c1 : j < 13
  · exact h j c1
  · by_cases c2 : j < 16
    · obtain ⟨k, hk, rfl⟩ : ∃ k, k < 3 ∧ j = 13 + k := ⟨j - 13, by omega, by omega⟩
      obtain ⟨a1, a2, a3, a4, a5, _⟩ := hS.2 k hk
      obtain ⟨b1, b2, b3, b4, b5, _⟩ := hS'.2 k hk
      have u1 := k1 k hk
      have u2 := k2 k hk
      have z1 : cs k = 0 := by
        have q := a4
        rw [u1.2.1] at q
        exact Nat.lt_one_iff.mp q
      have z2 : cs' k = 0 := by
        have q := b4
        rw [u2.2.1] at q
        exact Nat.lt_one_iff.mp q
      rw [a1, b1, u1.1, u2.1, u1.2.1, u2.2.1, u1.2.2, u2.2.2, z1, z2]
    · obtain ⟨k, i, hk, hi, rfl⟩ : ∃ k i, k < 3 ∧ i < 6 ∧ j = (16 + (k * 6)) + i := ⟨(j - 16) / 6, (j - 16) % 6, by omega, by omega, by omega⟩
      rw [(hS.2 k hk).2.2.2.2.2.2.2.2.2.2 i (by rw [(k1 k hk).2.1]; exact Nat.zero_le _) hi, (hS'.2 k hk).2.2.2.2.2.2.2.2.2.2 i (by rw [(k2 k hk).2.1]; exact Nat.zero_le _) hi]
theorem bFin_O (hm : m8 = 0 ∨ m8 = 1) (hG : bG pf L nc) : ∀ a b, a < (bFin pf cf L nc m8).1 → b < (bFin pf cf L nc m8).1 → gEd ((bFin pf cf L nc m8).2.1 a) L nc → gEd ((bFin pf cf L nc m8).2.1 b) L nc → a ≠ b → ¬ ∀ j, j < 13 → (bFin pf cf L nc m8).2.1 a j = (bFin pf cf L nc m8).2.1 b j := by
  rw [bFin_d]
  intro a b ha hb ea eb hab h
  have hm2 : ¬ m8 = 2 := by
    rcases hm with e | e <;> rw [e] <;> decide
  have hm3 : m8 = 0 ∨ m8 = 1 ∨ m8 = 2 := by
    rcases hm with e | e
    · exact Or.inl e
    · exact Or.inr (Or.inl e)
  obtain ⟨d1, h1⟩ := bRun_I hm3 hG 18000 a ha
  obtain ⟨d2, h2⟩ := bRun_I hm3 hG 18000 b hb
  have k := bI_end hm2 hG.1 hG.2.1 h1 h2 ea eb h
  rcases Nat.lt_or_gt_of_ne hab with q | q
  · exact bRun_D 18000 a b q hb k
  · exact bRun_D 18000 b a q ha (gAg_y k)
end PTB
/-! a SCHEDULE, ten steps a word -/
def gPk8 (ps : Nat → Nat) (w : Nat) : Nat → Nat
  | 0 => 0
  | u + 1 => gPk8 ps w u + (ps (10 * w + u) + 1) * 8 ^ u
def gNl (l j : Nat) : Nat := min 10 (l - 10 * j)
section PKK
variable {ps : Nat → Nat} {w l : Nat}
theorem gPk8_s {u : Nat} : gPk8 ps w (u + 1) = gPk8 ps w u + (ps (10 * w + u) + 1) * 8 ^ u := rfl
theorem gPk8_lt : ∀ U, (∀ j, j < U → ps (10 * w + j) ≤ 6) → gPk8 ps w U < 8 ^ U
  | 0, _ => by
    show 0 < 8 ^ 0
    decide
  | U + 1, h => by
    have a := gPk8_lt U (fun j hj => h j (by omega))
    have c := h U (Nat.lt_succ_self U)
    have d : (ps (10 * w + U) + 1) * 8 ^ U ≤ 7 * 8 ^ U := Nat.mul_le_mul_right _ (by omega)
    rw [gPk8_s, Nat.pow_succ]
    omega
theorem gPk8_d : ∀ U u, (∀ j, j < U → ps (10 * w + j) ≤ 6) → gPk8 ps w U / 8 ^ u % 8 = if u < U then ps (10 * w + u) + 1 else 0
  | 0, u, _ => by
    rw [if_neg (Nat.not_lt_zero u)]
    show 0 / 8 ^ u % 8 = 0
    have z : 0 / 8 ^ u = 0 := Nat.zero_div _
    omega
  | U + 1, u, h => by
    have a := gPk8_lt U (fun j hj => h j (by omega))
    have ih := gPk8_d U u (fun j hj => h j (by omega))
    have c := h U (Nat.lt_succ_self U)
    rw [gPk8_s]
    rcases Nat.lt_trichotomy u U with q | q | q
    · rw [if_pos (by omega)]
      rw [if_pos q] at ih
      obtain ⟨d, rfl⟩ : ∃ d, U = u + 1 + d := ⟨U - u - 1, by omega⟩
      have e : (ps (10 * w + (u + 1 + d)) + 1) * 8 ^ (u + 1 + d) = 8 ^ u * (8 * ((ps (10 * w + (u + 1 + d)) + 1) * 8 ^ d)) := by
        rw [Nat.pow_add, Nat.pow_succ]
        generalize ps (10 * w + (u + 1 + d)) + 1 = x
        generalize 8 ^ u = y
        generalize 8 ^ d = v
        rw [Nat.mul_left_comm x (y * 8) v, Nat.mul_assoc y 8 (x * v)]
      rw [e, Nat.add_mul_div_left _ _ (Nat.pow_pos (by decide))]
      omega
    · subst q
      rw [if_pos (by omega), Nat.mul_comm (ps (10 * w + u) + 1), Nat.add_mul_div_left _ _ (Nat.pow_pos (by decide)), Nat.div_eq_of_lt a]
      omega
    · rw [if_neg (by omega)]
      have b := gPk8_lt (w := w) (ps := ps) (U + 1) h
      rw [gPk8_s] at b
      have d : 8 ^ (U + 1) ≤ 8 ^ u := Nat.pow_le_pow_right (by decide) q
      have z := Nat.div_eq_of_lt (Nat.lt_of_lt_of_le b d)
      omega
theorem gNl_le {l j : Nat} : gNl l j ≤ 10 := Nat.min_le_left _ _
theorem gNl_ps (h : ∀ j, j < l → ps j < 6) {j : Nat} : ∀ u, u < gNl l j → ps (10 * j + u) ≤ 6 := fun u hu => by
  unfold gNl at hu
  have := h (10 * j + u) (by omega)
  omega
theorem gNl_at {i : Nat} : gNl i (i / 10) = i % 10 := by
  unfold gNl
  omega
theorem gNl_at1 {i : Nat} : gNl (i + 1) (i / 10) = i % 10 + 1 := by
  unfold gNl
  omega
theorem gNl_ne {i j : Nat} (h : j ≠ i / 10) : gNl (i + 1) j = gNl i j := by
  unfold gNl
  omega
theorem gI_ext {x y : Int32} (h : x.toBitVec.toNat = y.toBitVec.toNat) : x = y := Int32.toBitVec_inj.mp (BitVec.eq_of_toNat_eq h)
theorem g8_30 {u : Nat} (hu : u < 10) : 8 ^ u ≤ 134217728 := Nat.le_trans (Nat.pow_le_pow_right (by decide) (show u ≤ 9 by omega)) (by decide)
theorem gSh8 {b u : Nat} (hb : b ≤ 7) (hu : u < 10) : nI b <<< (nI (3 * u) &&& 31) = nI (b * 8 ^ u) := by
  have h8 := g8_30 hu
  have hm : b * 8 ^ u ≤ 7 * 134217728 := Nat.mul_le_mul hb h8
  refine gI_ext ?_
  rw [pk_shl (nI b) _ (3 * u) (s_l (3 * u) (by omega)), gN_tn, gN_tn, Nat.pow_mul, show (2 : Nat) ^ 3 = 8 from rfl, Nat.mod_eq_of_lt (show b < 4294967296 by omega)]
theorem gOr8 {a b u : Nat} (ha : a < 8 ^ u) (hb : b ≤ 7) (hu : u < 10) : nI a ||| nI (b * 8 ^ u) = nI (a + b * 8 ^ u) := by
  have h8 := g8_30 hu
  have hm : b * 8 ^ u ≤ 7 * 134217728 := Nat.mul_le_mul hb h8
  have e2 : 8 ^ u = 2 ^ (3 * u) := by rw [Nat.pow_mul, show (2 : Nat) ^ 3 = 8 from rfl]
  refine gI_ext ?_
  rw [Int32.toBitVec_or, BitVec.toNat_or, gN_tn, gN_tn, gN_tn, Nat.mod_eq_of_lt (show a < 4294967296 by omega), Nat.mod_eq_of_lt (show b * 8 ^ u < 4294967296 by omega), Nat.mod_eq_of_lt (show a + b * 8 ^ u < 4294967296 by omega)]
  rw [e2] at ha ⊢
  rw [Nat.or_comm, Nat.mul_comm b, ← Nat.two_pow_add_eq_or_of_lt ha b, Nat.add_comm]
end PKK
/-- record n: an OUTCOME and its SCHEDULE -/
def gRec (rec : Nat → Int32) (n : Nat) (R cm : Nat → Int32) (m : Nat) : Prop := (∀ i, i < 13 → rec ((n * 17) + i) = R i) ∧ ∃ (l : Nat) (ps : Nat → Nat), gPth cm ps l m ∧ l ≤ 36 ∧ ∀ j, j < 4 → rec (((n * 17) + 13) + j) = nI (gPk8 ps j (gNl l j))
def gRcs (rec rf cm : Nat → Int32) (el : Nat → Nat) (wd k : Nat) : Prop := ∀ n, n < k → gRec rec n (gRo rf wd (el n)) cm (el n)
section RCC
variable {rec rec9 rf cm R R9 : Nat → Int32} {el ps : Nat → Nat} {wd k n m l : Nat}
theorem gRec_f (h : gRec rec n R cm m) (e : ∀ j, n * 17 ≤ j → j < n * 17 + 17 → rec9 j = rec j) : gRec rec9 n R cm m := by
  obtain ⟨a, l, ps, b, c, d⟩ := h
  exact ⟨fun i hi => (e _ (by omega) (by omega)).trans (a i hi), l, ps, b, c, fun j hj => (e _ (by omega) (by omega)).trans (d j hj)⟩
theorem gRcs_0 : gRcs rec rf cm el wd 0 := fun n h => absurd h (Nat.not_lt_zero n)
theorem gRcs_s (h : gRcs rec rf cm el wd n) (hf : gFm rec9 rec (n * 17) 17) (h1 : ∀ j, j < 13 → rec9 ((n * 17) + j) = rf ((el n * wd) + j)) (hp : gPth cm ps l (el n)) (hl : l ≤ 36) (h2 : ∀ j, j < 4 → rec9 (((n * 17) + 13) + j) = nI (gPk8 ps j (gNl l j))) : gRcs rec9 rf cm el wd (n + 1) := by
  intro t ht
  by_cases q : t = n
  · subst q
    exact ⟨fun i hi => h1 i hi, l, ps, hp, hl, h2⟩
  · exact gRec_f (h t (by omega)) (fun j a b => hf j (by omega))
end RCC
section PTC
variable {cm : Nat → Int32} {ps : Nat → Nat} {n m l t i j : Nat} {pf rec : Nat → Int32}
theorem gPth_z (h : gPth cm ps m n) (e : cm n = (-1)) (hn : n < 3000) : m = 0 := by
  cases m with
  | zero => rfl
  | succ m =>
    obtain ⟨p, q, a, c, d, _⟩ := h
    have k : nI (p * 8 + q) = (-1) := d.symm.trans e
    exact absurd (show nI (p * 8 + q) < 0 by rw [k]; decide) (nI_pos (by omega))
theorem gPth_s (h : gPth cm ps m n) (e : ¬ cm n = (-1)) : ∃ p q, p < n ∧ q < 6 ∧ cm n = nI (p * 8 + q) ∧ 0 < m ∧ ps (m - 1) = q ∧ gPth cm ps (m - 1) p := by
  cases m with
  | zero => exact absurd h e
  | succ m =>
    obtain ⟨p, q, a, c, d, f, g⟩ := h
    exact ⟨p, q, a, c, d, Nat.succ_pos m, f, g⟩
/-- a path half turned round -/
def gRv (ps : Nat → Nat) (t i : Nat) (pf : Nat → Int32) : Prop := ∀ j, j < t → pf j = nI (ps (if j < i ∨ t - 1 - j < i then j else t - 1 - j))
theorem gRv_0 (h : ∀ j, j < t → pf j = nI (ps (t - 1 - j))) : gRv ps t 0 pf := fun j hj => by
  rw [if_neg (by omega)]
  exact h j hj
theorem gRv_s (h : gRv ps t i pf) (hi : i < t / 2) : gRv ps t (i + 1) (upd (upd pf i (pf ((t - 1) - i))) ((t - 1) - i) (pf i)) := by
  intro j hj
  by_cases q : j = t - 1 - i
  · rw [q, pk_us, if_pos (by omega), h i (by omega), if_neg (by omega)]
  · rw [pk_un q]
    by_cases p : j = i
    · rw [p, pk_us, if_pos (by omega), h (t - 1 - i) (by omega), if_neg (by omega), show t - 1 - (t - 1 - i) = i by omega]
    · rw [pk_un p, h j hj]
      by_cases r : j < i ∨ t - 1 - j < i
      · rw [if_pos r, if_pos (by omega)]
      · rw [if_neg r, if_neg (by omega)]
theorem gRv_e (h : gRv ps t i pf) (hi : t / 2 ≤ i) : ∀ j, j < t → pf j = nI (ps j) := by
  intro j hj
  rw [h j hj]
  by_cases r : j < i ∨ t - 1 - j < i
  · rw [if_pos r]
  · rw [if_neg r, show t - 1 - j = j by omega]
theorem gNl_0 : gNl 0 j = 0 := by
  unfold gNl
  omega
theorem gPk8_31 (h : ∀ i, i < l → ps i < 6) : gPk8 ps j (gNl l j) < 2 ^ 31 := by
  have a := gPk8_lt (ps := ps) (w := j) (gNl l j) (gNl_ps h)
  have b : 8 ^ gNl l j ≤ 8 ^ 10 := Nat.pow_le_pow_right (by decide) gNl_le
  have c : (8 : Nat) ^ 10 < 2 ^ 31 := by decide
  omega
theorem gSr8 {m u : Nat} (hm : m < 2 ^ 31) (hu : u < 10) : nI m >>> (nI (3 * u) &&& 31) = nI (m / 8 ^ u) := by
  have h := pk_shrN hm (nI (3 * u) &&& 31) (3 * u) (s_l (3 * u) (by omega))
  rw [Nat.pow_mul] at h
  exact h
theorem gAn_w (h6 : ∀ i, i < l → ps i < 6) (hl : l ≤ 36) (hj : j < 38) : gAn l ps (nI j) (nI ((nI (gPk8 ps (j / 10) (gNl l (j / 10)) / 8 ^ (j % 10))).toBitVec.toNat % 8) - 1) := by
  have a := gPk8_31 (j := j / 10) h6
  have b : gPk8 ps (j / 10) (gNl l (j / 10)) / 8 ^ (j % 10) ≤ gPk8 ps (j / 10) (gNl l (j / 10)) := Nat.div_le_self _ _
  have d := gPk8_d (ps := ps) (w := j / 10) (gNl l (j / 10)) (j % 10) (gNl_ps h6)
  rw [pk_tn (by omega), d, show 10 * (j / 10) + j % 10 = j by omega]
  by_cases c : j < l
  · rw [if_pos (by unfold gNl; omega)]
    exact Or.inl ⟨j, c, rfl, pk_sub (a := ps j + 1) (b := 1) (by omega)⟩
  · rw [if_neg (by unfold gNl; omega)]
    refine Or.inr ⟨by decide, fun i hi e => ?_⟩
    have := (nI_eq (a := j) (b := i) (by omega) (by omega)).mp e
    omega
end PTC
/-- has(x) of size sz -/
def gHas (z x : Int32) (sz : Nat) : Prop := (z = 1 ∧ ∃ j, j < sz ∧ x = nI j) ∨ (z = 0 ∧ ∀ j, j < sz → ¬ x = nI j)
theorem gHas_n {x : Int32} {sz : Nat} (h3 : sz ≤ 3000) (h : x < 0) : gHas 0 x sz := Or.inr ⟨rfl, fun j hj e => nI_pos (n := j) (by omega) (by rw [← e]; exact h)⟩
theorem gHas_g {x : Int32} {sz : Nat} (h3 : sz ≤ 3000) (h : nI sz ≤ x) : gHas 0 x sz := Or.inr ⟨rfl, fun j hj e => by
  rw [e] at h
  have := (nI_leI (a := sz) (b := j) (by omega) (by omega)).mp h
  omega⟩
theorem gHas_z {z x : Int32} {sz : Nat} (h : gHas z x sz) (hz : z = 0) : ∀ j, j < sz → ¬ x = nI j := (h.resolve_left (fun q => absurd (q.1.symm.trans hz) (by decide))).2
section PT9
variable {fr bf : Nat → Int32} {ps : Nat → Nat} {b n m : Nat}
theorem gPt9_z (h : gPt9 fr bf b ps m n) (e : fr (b + n) < 0) (hn : n < 3000) : m = 0 := by
  cases m with
  | zero => rfl
  | succ m =>
    obtain ⟨p, q, a, c, d, _⟩ := h
    rw [d] at e
    exact absurd e (nI_pos (by omega))
theorem gPt9_s (h : gPt9 fr bf b ps m n) (e : ¬ fr (b + n) < 0) (hn : n < 3000) : ∃ p q, p < n ∧ q < 6 ∧ fr (b + n) = nI p ∧ bf (b + n) = nI q ∧ 0 < m ∧ ps (m - 1) = q ∧ gPt9 fr bf b ps (m - 1) p := by
  cases m with
  | zero =>
    have h : fr (b + n) = (-1) := h
    rw [h] at e
    exact absurd (by decide) e
  | succ m =>
    obtain ⟨p, q, a, c, d, f, g, k⟩ := h
    exact ⟨p, q, a, c, d, f, Nat.succ_pos m, g, k⟩
end PT9
theorem rMd_2 {a : Nat} (h : a < 2) : nI a = 0 ∨ nI a = 1 ∨ nI a = 2 := by
  rcases (show a = 0 ∨ a = 1 by omega) with e | e <;> subst e
  · exact Or.inl rfl
  · exact Or.inr (Or.inl rfl)
