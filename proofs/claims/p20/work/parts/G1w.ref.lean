
/-! the reference's table of STATES -/
def gH9 (w : Nat → Int32) : Nat → Int64
  | 0 => 7
  | i + 1 => (gH9 w i * 1000003) + (w i).toInt64
def gHz9 (h : Int64) : Nat := (((h ^^^ (((h).toUInt64 >>> ((23 : Int32).toInt64.toUInt64 &&& Int64.toUInt64 63)).toInt64)) ^^^ (((h).toUInt64 >>> ((41 : Int32).toInt64.toUInt64 &&& Int64.toUInt64 63)).toInt64)).toInt32).toBitVec.toNat % 4096
def gSu (w : Nat → Int32) : Nat := gHz9 (gH9 w 58)
def gR9 (sf : Nat → Int32) (s m : Nat) : Nat → Int32 := fun j => sf ((((3000 * s) + m) * 58) + j)
theorem gH9_ag {w v : Nat → Int32} : ∀ i, gAg i w v → gH9 w i = gH9 v i
  | 0, _ => rfl
  | i + 1, h => by
    show (gH9 w i * 1000003) + (w i).toInt64 = (gH9 v i * 1000003) + (v i).toInt64
    rw [gH9_ag i (fun j hj => h j (by omega)), h i (by omega)]
theorem gSu_ag {w v : Nat → Int32} (h : gAg 58 w v) : gSu w = gSu v := by
  unfold gSu
  rw [gH9_ag 58 h]
theorem gSu_lt {w : Nat → Int32} : gSu w < 4096 := Nat.mod_lt _ (by decide)
/-- the rows by their sums: each chain from the last to the first -/
def gCh (s n : Nat) (sf nf hf : Nat → Int32) : Prop := (∀ h, h < 4096 → (hf ((4096 * s) + h) = (-1) ∧ ∀ m, m < n → ¬ gSu (gR9 sf s m) = h) ∨ ∃ q, q < n ∧ hf ((4096 * s) + h) = nI q ∧ gSu (gR9 sf s q) = h ∧ ∀ m, q < m → m < n → ¬ gSu (gR9 sf s m) = h) ∧ ∀ p, p < n → (nf ((3000 * s) + p) = (-1) ∧ ∀ m, m < p → ¬ gSu (gR9 sf s m) = gSu (gR9 sf s p)) ∨ ∃ q, q < p ∧ nf ((3000 * s) + p) = nI q ∧ gSu (gR9 sf s q) = gSu (gR9 sf s p) ∧ ∀ m, q < m → m < p → ¬ gSu (gR9 sf s m) = gSu (gR9 sf s p)
section CHH
variable {sf sf9 nf hf nw : Nat → Int32} {s n h m0 mm m1 : Nat}
theorem gy_m1 {x : Int32} {m : Nat} (e : x = nI m - 1) (hx : x = (-1)) (hm : m < 2 ^ 30) : m = 0 := by
  have h : nI m - 1 < 0 := by rw [← e, hx]; decide
  exact gy_m1z hm h
theorem gy_mq {x : Int32} {m q : Nat} (e : x = nI m - 1) (hx : x = nI q) (hm : m < 2 ^ 30) (hq : q < 2 ^ 30) : m = q + 1 := by
  have h0 : ¬ nI m - 1 < 0 := by rw [← e, hx]; exact nI_pos (by omega)
  have h1 := gy_m1p hm h0
  have e2 : nI m - 1 = nI (m - 1) := pk_sub (a := m) (b := 1) (by omega)
  have := (nI_eq (a := m - 1) (b := q) (by omega) (by omega)).mp (e2.symm.trans (e.symm.trans hx))
  omega
theorem gCh_h (hC : gCh s n sf nf hf) (hn : n ≤ 3000) (hh : h < 4096) (e : hf ((4096 * s) + h) = nI m0 - 1) (hm : m0 ≤ n) : (m0 = 0 ∨ gSu (gR9 sf s (m0 - 1)) = h) ∧ ∀ m, m < n → gSu (gR9 sf s m) = h → m < m0 := by
  rcases hC.1 h hh with ⟨a, b⟩ | ⟨q, a, b, c, d⟩
  · exact ⟨Or.inl (gy_m1 e a (by omega)), fun m hm q => absurd q (b m hm)⟩
  · have eq := gy_mq e b (by omega) (by omega)
    refine ⟨Or.inr (by rw [show m0 - 1 = q by omega]; exact c), fun m hm g => ?_⟩
    by_cases k : q < m
    · exact absurd g (d m k hm)
    · omega
theorem gCh_n (hC : gCh s n sf nf hf) (hn : n ≤ 3000) (h0 : 0 < mm) (hm : mm ≤ n) (e : nf ((3000 * s) + (mm - 1)) = nI m1 - 1) (h1 : m1 ≤ mm - 1) : (m1 = 0 ∨ gSu (gR9 sf s (m1 - 1)) = gSu (gR9 sf s (mm - 1))) ∧ ∀ m, m1 ≤ m → m < mm - 1 → ¬ gSu (gR9 sf s m) = gSu (gR9 sf s (mm - 1)) := by
  rcases hC.2 (mm - 1) (by omega) with ⟨a, b⟩ | ⟨q, a, b, c, d⟩
  · exact ⟨Or.inl (gy_m1 e a (by omega)), fun m _ hm => b m hm⟩
  · have eq := gy_mq e b (by omega) (by omega)
    exact ⟨Or.inr (by rw [show m1 - 1 = q by omega]; exact c), fun m g hm => d m (by omega) hm⟩
/-- the chain has been looked at down to mm -/
def gCk (s n : Nat) (sf nw : Nat → Int32) (mm : Nat) : Prop := (mm = 0 ∨ gSu (gR9 sf s (mm - 1)) = gSu nw) ∧ ∀ m, m < n → gSu (gR9 sf s m) = gSu nw → mm ≤ m → ¬ gAg 58 (gR9 sf s m) nw
theorem gCk_0 (hC : gCh s n sf nf hf) (hn : n ≤ 3000) (hh : h = gSu nw) (e : hf ((4096 * s) + h) = nI m0 - 1) (hm : m0 ≤ n) : gCk s n sf nw m0 := by
  subst hh
  obtain ⟨a, b⟩ := gCh_h hC hn gSu_lt e hm
  exact ⟨a, fun m hm g k => absurd (b m hm g) (by omega)⟩
theorem gCk_s (hC : gCh s n sf nf hf) (hn : n ≤ 3000) (hK : gCk s n sf nw mm) (h0 : 0 < mm) (hm : mm ≤ n) (e : nf ((3000 * s) + (mm - 1)) = nI m1 - 1) (h1 : m1 ≤ mm - 1) (hd : ¬ gAg 58 (gR9 sf s (mm - 1)) nw) : gCk s n sf nw m1 := by
  obtain ⟨a, b⟩ := gCh_n hC hn h0 hm e h1
  have hs := hK.1.resolve_left (by omega)
  rw [hs] at a b
  refine ⟨a, fun m hmn g k => ?_⟩
  by_cases c : mm ≤ m
  · exact hK.2 m hmn g c
  · by_cases c2 : m = mm - 1
    · rw [c2]; exact hd
    · exact absurd g (b m k (by omega))
theorem gCk_no (hK : gCk s n sf nw 0) : ¬ ∃ m, m < n ∧ gAg 58 (gR9 sf s m) nw := by
  rintro ⟨m, hm, g⟩
  exact hK.2 m hm (gSu_ag g) (Nat.zero_le _) g
theorem gCh_e (h : gCh s n sf nf hf) (e : ∀ m, m < n → gAg 58 (gR9 sf9 s m) (gR9 sf s m)) : gCh s n sf9 nf hf := by
  have q : ∀ m, m < n → gSu (gR9 sf9 s m) = gSu (gR9 sf s m) := fun m hm => gSu_ag (e m hm)
  refine ⟨fun t ht => ?_, fun p hp => ?_⟩
  · rcases h.1 t ht with ⟨a, b⟩ | ⟨r, a, b, c, d⟩
    · exact Or.inl ⟨a, fun m hm => by rw [q m hm]; exact b m hm⟩
    · exact Or.inr ⟨r, a, b, by rw [q r a]; exact c, fun m g hm => by rw [q m hm]; exact d m g hm⟩
  · rcases h.2 p hp with ⟨a, b⟩ | ⟨r, a, b, c, d⟩
    · exact Or.inl ⟨a, fun m hm => by rw [q m (by omega), q p hp]; exact b m hm⟩
    · exact Or.inr ⟨r, a, b, by rw [q r (by omega), q p hp]; exact c, fun m g hm => by rw [q m (by omega), q p hp]; exact d m g hm⟩
theorem gCh_a (hC : gCh s n sf nf hf) (hn : n < 3000) (hh : h = gSu nw) (r : gRow sf9 sf nw ((3000 * s + n) * 58) 58) : gCh s (n + 1) sf9 (upd nf (3000 * s + n) (hf (4096 * s + h))) (upd hf (4096 * s + h) (nI n)) := by
  have hold : ∀ m, m < n → gAg 58 (gR9 sf9 s m) (gR9 sf s m) := fun m hm j hj => r.2 _ (by omega)
  have hnew : gSu (gR9 sf9 s n) = h := by
    rw [hh]
    exact gSu_ag (fun j hj => r.1 j hj)
  have hh4 : h < 4096 := by rw [hh]; exact gSu_lt
  obtain ⟨g1, g2⟩ := gCh_e hC hold
  refine ⟨fun t ht => ?_, fun p hp => ?_⟩
  · by_cases e : t = h
    · subst e
      refine Or.inr ⟨n, by omega, pk_us, hnew, fun m a b => absurd b (by omega)⟩
    · rw [pk_un (by omega)]
      rcases g1 t ht with ⟨a, b⟩ | ⟨q, a, b, c, d⟩
      · refine Or.inl ⟨a, fun m hm => ?_⟩
        by_cases k : m = n
        · rw [k, hnew]; exact fun q => e q.symm
        · exact b m (by omega)
      · refine Or.inr ⟨q, by omega, b, c, fun m k hm => ?_⟩
        by_cases k2 : m = n
        · rw [k2, hnew]; exact fun q => e q.symm
        · exact d m k (by omega)
  · by_cases e : p = n
    · subst e
      rw [pk_us, hnew]
      rcases g1 h hh4 with ⟨a, b⟩ | ⟨q, a, b, c, d⟩
      · exact Or.inl ⟨a, b⟩
      · exact Or.inr ⟨q, a, b, c, d⟩
    · rw [pk_un (by omega)]
      exact g2 p (by omega)
theorem gCh_0 (hz : ∀ j, j < 4096 → hf ((4096 * s) + j) = (-1)) (hn : n = 0) : gCh s n sf nf hf := by
  subst hn
  exact ⟨fun h hh => Or.inl ⟨hz h hh, fun m hm => absurd hm (Nat.not_lt_zero m)⟩, fun p hp => absurd hp (Nat.not_lt_zero p)⟩
end CHH
/-- two STATES are one iff they are one for the reference -/
theorem gPw_in {a b c d a' b' c' d' : Nat} (h1 : a < 16) (h2 : b < 8) (h3 : c < 4096) (h4 : d < 16) (g1 : a' < 16) (g2 : b' < 8) (g3 : c' < 4096) (g4 : d' < 16) (e : gPw a b c d = gPw a' b' c' d') : a = a' ∧ b = b' ∧ c = c' ∧ d = d' := by
  have := (nI_eq (by omega) (by omega)).mp e
  omega
theorem gcs_in {c c' : Nat} (h : c < 4096) (h' : c' < 4096) (e : ∀ i, i < 6 → c / 4 ^ i % 4 = c' / 4 ^ i % 4) : c = c' := by
  have e0 := e 0 (by decide)
  have e1 := e 1 (by decide)
  have e2 := e 2 (by decide)
  have e3 := e 3 (by decide)
  have e4 := e 4 (by decide)
  have e5 := e 5 (by decide)
  have e0 : c % 4 = c' % 4 := by rw [show 4 ^ 0 = 1 from rfl, Nat.div_one, Nat.div_one] at e0; exact e0
  have e1 : c / 4 % 4 = c' / 4 % 4 := e1
  have e2 : c / 16 % 4 = c' / 16 % 4 := e2
  have e3 : c / 64 % 4 = c' / 64 % 4 := e3
  have e4 : c / 256 % 4 = c' / 256 % 4 := e4
  have e5 : c / 1024 % 4 = c' / 1024 % 4 := e5
  omega
section INJ
variable {f g w v : Nat → Int32} {m8 : Int32} {nc : Nat}
theorem rR_wf (hw : rR m8 nc f w) (hv : rR m8 nc g v) (e : gAg 58 w v) : gAg 34 f g := by
  obtain ⟨nx, rz, cs, st, h1, _⟩ := hw
  obtain ⟨nx', rz', cs', st', h2, _⟩ := hv
  intro j hj
  by_cases c1 : j < 9
  · obtain ⟨k, r, hk, hr, rfl⟩ : ∃ k r, k < 3 ∧ r < 3 ∧ j = (k * 3) + r := ⟨j / 3, j % 3, by omega, by omega, by omega⟩
    rw [(h1.2 k hk).2.2.2.2.2.2.2.2.1 r hr, (h2.2 k hk).2.2.2.2.2.2.2.2.1 r hr]
    exact e _ (by omega)
  · by_cases c2 : j < 13
    · obtain ⟨c, hc, rfl⟩ : ∃ c, c < 4 ∧ j = 9 + c := ⟨j - 9, by omega, by omega⟩
      rw [h1.1 c hc, h2.1 c hc]
      exact e _ (by omega)
    · by_cases c3 : j < 16
      · obtain ⟨k, hk, rfl⟩ : ∃ k, k < 3 ∧ j = 13 + k := ⟨j - 13, by omega, by omega⟩
        obtain ⟨a1, a2, a3, a4, a5, a6, a7, a8, a9, a10, a11⟩ := h1.2 k hk
        obtain ⟨b1, b2, b3, b4, b5, b6, b7, b8, b9, b10, b11⟩ := h2.2 k hk
        have q1 := (nI_eq (by omega) (by omega)).mp (a6.symm.trans ((e k (by omega)).trans b6))
        have q2 := (nI_eq (by omega) (by omega)).mp (a7.symm.trans ((e (16 + (13 * k)) (by omega)).trans b7))
        have q3 := (nI_eq (by omega) (by omega)).mp (a8.symm.trans ((e (55 + k) (by omega)).trans b8))
        have q4 : cs k = cs' k := gcs_in (gcs_12 a3 a4) (gcs_12 b3 b4) (fun i hi => (nI_eq (by omega) (by omega)).mp ((a10 i hi).2.symm.trans ((e _ (by omega)).trans (b10 i hi).2)))
        rw [a1, b1, q1, q2, q3, q4]
      · obtain ⟨k, i, hk, hi, rfl⟩ : ∃ k i, k < 3 ∧ i < 6 ∧ j = (16 + (k * 6)) + i := ⟨(j - 16) / 6, (j - 16) % 6, by omega, by omega, by omega⟩
        rw [((h1.2 k hk).2.2.2.2.2.2.2.2.2.1 i hi).1, ((h2.2 k hk).2.2.2.2.2.2.2.2.2.1 i hi).1]
        exact e _ (by omega)
theorem rR_fw (hw : rR m8 nc f w) (hv : rR m8 nc g v) (e : gAg (gWd m8 nc) f g) : gAg 58 w v := by
  obtain ⟨nx, rz, cs, st, h1, m1⟩ := hw
  obtain ⟨nx', rz', cs', st', h2, m2⟩ := hv
  have hwd : 16 ≤ gWd m8 nc := by
    unfold gWd
    by_cases q : m8 = 1
    · rw [if_pos q]; omega
    · rw [if_neg q]; exact Nat.le_refl _
  have hk : ∀ k, k < 3 → nx k = nx' k ∧ rz k = rz' k ∧ cs k = cs' k ∧ st k = st' k := by
    intro k hk
    obtain ⟨a1, a2, a3, a4, a5, _⟩ := h1.2 k hk
    obtain ⟨b1, b2, b3, b4, b5, _⟩ := h2.2 k hk
    exact gPw_in a2 (by omega) (gcs_12 a3 a4) a5 b2 (by omega) (gcs_12 b3 b4) b5 (a1.symm.trans ((e (13 + k) (by omega)).trans b1))
  have hrow : ∀ k, k < 3 → ∀ i, i < 6 → f ((16 + (k * 6)) + i) = g ((16 + (k * 6)) + i) := by
    intro k hk3 i hi
    by_cases q : m8 = 1 ∧ k < nc
    · refine e _ ?_
      unfold gWd
      rw [if_pos q.1]
      omega
    · have z1 : rz k = 0 := by
        by_cases p : m8 = 1
        · exact m1.2.2 k (Nat.not_lt.mp (fun h => q ⟨p, h⟩)) hk3
        · exact m1.1 p k hk3
      have z2 : rz' k = 0 := by rw [← (hk k hk3).2.1]; exact z1
      rw [(h1.2 k hk3).2.2.2.2.2.2.2.2.2.2 i (by omega) hi, (h2.2 k hk3).2.2.2.2.2.2.2.2.2.2 i (by omega) hi]
  intro j hj
  by_cases c1 : j < 3
  · rw [(h1.2 j c1).2.2.2.2.2.1, (h2.2 j c1).2.2.2.2.2.1, (hk j c1).1]
  · by_cases c2 : j < 12
    · obtain ⟨k, r, hk3, hr, rfl⟩ : ∃ k r, k < 3 ∧ r < 3 ∧ j = (3 + (3 * k)) + r := ⟨(j - 3) / 3, (j - 3) % 3, by omega, by omega, by omega⟩
      rw [← (h1.2 k hk3).2.2.2.2.2.2.2.2.1 r hr, ← (h2.2 k hk3).2.2.2.2.2.2.2.2.1 r hr]
      exact e _ (by omega)
    · by_cases c3 : j < 16
      · obtain ⟨c, hc, rfl⟩ : ∃ c, c < 4 ∧ j = 12 + c := ⟨j - 12, by omega, by omega⟩
        rw [← h1.1 c hc, ← h2.1 c hc]
        exact e _ (by omega)
      · by_cases c4 : j < 55
        · obtain ⟨k, t, hk3, ht, rfl⟩ : ∃ k t, k < 3 ∧ t < 13 ∧ j = 16 + (13 * k) + t := ⟨(j - 16) / 13, (j - 16) % 13, by omega, by omega, by omega⟩
          by_cases t0 : t = 0
          · subst t0
            rw [show 16 + (13 * k) + 0 = 16 + (13 * k) by omega, (h1.2 k hk3).2.2.2.2.2.2.1, (h2.2 k hk3).2.2.2.2.2.2.1, (hk k hk3).2.1]
          · by_cases t1 : t % 2 = 1
            · obtain ⟨i, hi, rfl⟩ : ∃ i, i < 6 ∧ t = 1 + 2 * i := ⟨(t - 1) / 2, by omega, by omega⟩
              rw [show 16 + (13 * k) + (1 + 2 * i) = ((16 + (13 * k)) + 1) + (2 * i) by omega, ((h1.2 k hk3).2.2.2.2.2.2.2.2.2.1 i hi).2, ((h2.2 k hk3).2.2.2.2.2.2.2.2.2.1 i hi).2, (hk k hk3).2.2.1]
            · obtain ⟨i, hi, rfl⟩ : ∃ i, i < 6 ∧ t = 2 + 2 * i := ⟨(t - 2) / 2, by omega, by omega⟩
              rw [show 16 + (13 * k) + (2 + 2 * i) = ((16 + (13 * k)) + 2) + (2 * i) by omega, ← ((h1.2 k hk3).2.2.2.2.2.2.2.2.2.1 i hi).1, ← ((h2.2 k hk3).2.2.2.2.2.2.2.2.2.1 i hi).1]
              exact hrow k hk3 i hi
        · obtain ⟨k, hk3, rfl⟩ : ∃ k, k < 3 ∧ j = 55 + k := ⟨j - 55, by omega, by omega⟩
          rw [(h1.2 k hk3).2.2.2.2.2.2.2.1, (h2.2 k hk3).2.2.2.2.2.2.2.1, (hk k hk3).2.2.2]
end INJ
