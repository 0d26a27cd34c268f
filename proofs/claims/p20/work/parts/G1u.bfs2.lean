
/-! what holds of every STATE that a search meets -/
def gCt (pf : Nat → Int32) (k : Nat) : Nat → Nat
  | 0 => 0
  | i + 1 => gCt pf k i + (if pf ((((k * 8) + i) * 8) + 0) = 1 then 1 else 0)
theorem gCt_le {pf : Nat → Int32} {k i : Nat} : ∀ d, gCt pf k i ≤ gCt pf k (i + d)
  | 0 => Nat.le_refl _
  | d + 1 => by
    have h := gCt_le (pf := pf) (k := k) (i := i) d
    have e : gCt pf k (i + (d + 1)) = gCt pf k (i + d) + (if pf ((((k * 8) + (i + d)) * 8) + 0) = 1 then 1 else 0) := rfl
    rw [e]
    omega
theorem gCt_mo {pf : Nat → Int32} {k i j : Nat} (h : i ≤ j) : gCt pf k i ≤ gCt pf k j := by
  obtain ⟨d, rfl⟩ : ∃ d, j = i + d := ⟨j - i, by omega⟩
  exact gCt_le d
theorem gCt_s {pf : Nat → Int32} {k i : Nat} (h : pf ((((k * 8) + i) * 8) + 0) = nI 1) : gCt pf k (i + 1) = gCt pf k i + 1 := by
  have e : gCt pf k (i + 1) = gCt pf k i + (if pf ((((k * 8) + i) * 8) + 0) = 1 then 1 else 0) := rfl
  rw [e, if_pos (show pf ((((k * 8) + i) * 8) + 0) = 1 from h)]
/-- a PROGRAM whose skips stay within, and whose CORES store at most six times -/
def bG (pf : Nat → Int32) (L : Nat → Nat) (nc : Nat) : Prop := nc ≤ 3 ∧ (∀ k, k < 3 → L k ≤ 8) ∧ gG L pf 7 ∧ (∀ k i y, k < nc → i < L k → pf ((((k * 8) + i) * 8) + 0) = nI 8 → y ≤ 7 → pf ((((k * 8) + i) * 8) + 7) = nI y → i + 1 + y ≤ L k) ∧ ∀ k, k < nc → gCt pf k (L k) ≤ 6
def bI (pf : Nat → Int32) (L : Nat → Nat) (nc : Nat) (m8 : Int32) (d : Nat) (f : Nat → Int32) : Prop := ∃ (w : Nat → Int32) (nx rz cs st : Nat → Nat), rS f w nx rz cs st ∧ rM m8 nc rz st ∧ (∀ k, k < 3 → rz k ≤ gCt pf k (nx k)) ∧ (∀ k, k < nc → nx k ≤ L k) ∧ (∀ k, nc ≤ k → k < 3 → nx k = 0) ∧ d + rz 0 + rz 1 + rz 2 ≤ 2 * (nx 0 + nx 1 + nx 2)
section BII
variable {pf cf f w : Nat → Int32} {L nx rz cs st : Nat → Nat} {nc k d n : Nat} {m8 x mode kp : Int32}
theorem bI_0 (h3 : nc ≤ 3) : bI pf L nc m8 0 (gS0 cf) := by
  obtain ⟨w, hw⟩ : ∃ w : Nat → Int32, (∀ j, j < 58 → (j < 12 ∨ 16 ≤ j) → w j = 0) ∧ ∀ c, c < 4 → w (12 + c) = cf c := by
    refine ⟨fun j => if 12 ≤ j ∧ j < 16 then cf (j - 12) else 0, fun j _ h => if_neg (by omega), fun c hc => ?_⟩
    show (if 12 ≤ 12 + c ∧ 12 + c < 16 then cf (12 + c - 12) else 0) = cf c
    rw [if_pos (by omega), show 12 + c - 12 = c by omega]
  obtain ⟨nx, rz, cs, st, h1, h2⟩ := rR_0 (m8 := m8) (nc := nc) hw.1 hw.2
  have e : ∀ k, k < 3 → nx k = 0 ∧ rz k = 0 := by
    intro k hk
    have a := rS_ne h1 hk
    have b := rS_sz h1 hk
    have z : gS0 cf (13 + k) = 0 := if_neg (by omega)
    rw [z] at a b
    exact ⟨a.symm.trans (by decide), b.symm.trans (by decide)⟩
  refine ⟨w, nx, rz, cs, st, h1, h2, fun k hk => ?_, fun k hk => ?_, fun k _ hk => (e k hk).1, ?_⟩
  · rw [(e k hk).2]
    exact Nat.zero_le _
  · rw [(e k (by omega)).1]
    exact Nat.zero_le _
  · rw [(e 0 (by decide)).2, (e 1 (by decide)).2, (e 2 (by decide)).2]
    omega
theorem rS_lgx (h : rS f w nx rz cs st) (hk : k < 3) (hb : 0 < rz k) : ∃ w9, rS (gLg f k) w9 nx (updN rz k (rz k - 1)) (updN cs k (cs k / 4)) st := by
  obtain ⟨_, _, c3, _, _, _, c7, _, _, c10, _⟩ := h.2 k hk
  have ex := (c10 0 (by decide)).2
  have hx0 : cs k / 4 ^ 0 % 4 < 4 := Nat.mod_lt _ (by decide)
  generalize cs k / 4 ^ 0 % 4 = x0 at ex hx0
  have c3 : rz k ≤ 6 := c3
  let w9 : Nat → Int32 := fun j => if 12 ≤ j ∧ j < 16 then upd w (12 + x0) (w ((16 + (13 * k)) + 2)) j else if j = 16 + (13 * k) then nI (rz k - 1) else if 17 + 13 * k ≤ j ∧ j < 17 + 13 * k + 2 * (rz k - 1) then w (j + 2) else w j
  have hg : gGo w w9 k (rz k - 1) (2 * (rz k - 1)) := by
    refine ⟨fun j h1 h2 => ?_, ?_, fun t ht => ?_, fun t h1 h2 => ?_⟩
    · show (if 12 ≤ j ∧ j < 16 then upd w (12 + x0) (w ((16 + (13 * k)) + 2)) j else if j = 16 + (13 * k) then nI (rz k - 1) else if 17 + 13 * k ≤ j ∧ j < 17 + 13 * k + 2 * (rz k - 1) then w (j + 2) else w j) = w j
      rw [if_neg (by omega), if_neg (by omega), if_neg (by omega)]
    · show (if 12 ≤ 16 + (13 * k) ∧ 16 + (13 * k) < 16 then upd w (12 + x0) (w ((16 + (13 * k)) + 2)) (16 + (13 * k)) else if 16 + (13 * k) = 16 + (13 * k) then nI (rz k - 1) else if 17 + 13 * k ≤ 16 + (13 * k) ∧ 16 + (13 * k) < 17 + 13 * k + 2 * (rz k - 1) then w (16 + (13 * k) + 2) else w (16 + (13 * k))) = nI (rz k - 1)
      rw [if_neg (by omega), if_pos rfl]
    · show (if 12 ≤ 17 + 13 * k + t ∧ 17 + 13 * k + t < 16 then upd w (12 + x0) (w ((16 + (13 * k)) + 2)) (17 + 13 * k + t) else if 17 + 13 * k + t = 16 + (13 * k) then nI (rz k - 1) else if 17 + 13 * k ≤ 17 + 13 * k + t ∧ 17 + 13 * k + t < 17 + 13 * k + 2 * (rz k - 1) then w (17 + 13 * k + t + 2) else w (17 + 13 * k + t)) = w (19 + 13 * k + t)
      rw [if_neg (by omega), if_neg (by omega), if_pos (by omega)]
      congr 1
      omega
    · show (if 12 ≤ 17 + 13 * k + t ∧ 17 + 13 * k + t < 16 then upd w (12 + x0) (w ((16 + (13 * k)) + 2)) (17 + 13 * k + t) else if 17 + 13 * k + t = 16 + (13 * k) then nI (rz k - 1) else if 17 + 13 * k ≤ 17 + 13 * k + t ∧ 17 + 13 * k + t < 17 + 13 * k + 2 * (rz k - 1) then w (17 + 13 * k + t + 2) else w (17 + 13 * k + t)) = w (17 + 13 * k + t)
      rw [if_neg (by omega), if_neg (by omega), if_neg (by omega)]
  have hm : ∀ c, c < 4 → w9 (12 + c) = upd w (12 + x0) (w ((16 + (13 * k)) + 2)) (12 + c) := by
    intro c hc
    show (if 12 ≤ 12 + c ∧ 12 + c < 16 then upd w (12 + x0) (w ((16 + (13 * k)) + 2)) (12 + c) else if 12 + c = 16 + (13 * k) then nI (rz k - 1) else if 17 + 13 * k ≤ 12 + c ∧ 12 + c < 17 + 13 * k + 2 * (rz k - 1) then w (12 + c + 2) else w (12 + c)) = upd w (12 + x0) (w ((16 + (13 * k)) + 2)) (12 + c)
    rw [if_pos (by omega)]
  exact ⟨_, rS_lg h hk hb hx0 ex hg hm rfl rfl⟩
theorem rP8_c (c : Nat) (hc : c < 8) : rP8 (fun _ => pf (n + 0)) (fun _ => pf (n + 1)) (fun _ => pf (n + 2)) (fun _ => pf (n + 3)) (fun _ => pf (n + 4)) (fun _ => pf (n + 5)) (fun _ => pf (n + 6)) (fun _ => pf (n + 7)) 0 c = pf (n + c) := by
  rcases (show c = 0 ∨ c = 1 ∨ c = 2 ∨ c = 3 ∨ c = 4 ∨ c = 5 ∨ c = 6 ∨ c = 7 by omega) with e | e | e | e | e | e | e | e <;> subst e <;> rfl
/-- some STATE of the reference stands behind each step k -/
theorem rDo_x (hk : k < 3) (hI : gIns pf n 7) (hz6 : pf (n + 0) = nI 1 → ¬ mode = 0 → rz k < 6) (hkp : kp = 0 ∨ ¬ kp = 0 ∧ mode = 0) : ∃ w9, rDo (fun _ => pf (n + 0)) (fun _ => pf (n + 1)) (fun _ => pf (n + 2)) (fun _ => pf (n + 3)) (fun _ => pf (n + 4)) (fun _ => pf (n + 5)) (fun _ => pf (n + 6)) (fun _ => pf (n + 7)) w nx rz mode kp k 0 w9 := by
  obtain ⟨q, hq8, hq, hgr, hgc, h3, h5, hgs⟩ := hI
  rcases (show q = 0 ∨ q = 1 ∨ q = 2 ∨ q = 3 ∨ q = 4 ∨ (q = 5 ∨ q = 6 ∨ q = 7) ∨ q = 8 by omega) with e | e | e | e | e | e | e
  · subst e
    obtain ⟨r, hr, er⟩ := hgr (by decide) (by decide)
    obtain ⟨x, hx, ex⟩ := hgc (by decide) (by decide) (by decide) (by decide)
    exact ⟨_, rD_0 (kd := fun _ => pf (n + 0)) (cl := fun _ => pf (n + 1)) (rg := fun _ => pf (n + 2)) (v1 := fun _ => pf (n + 3)) (i1 := fun _ => pf (n + 4)) (v2 := fun _ => pf (n + 5)) (i2 := fun _ => pf (n + 6)) (sk := fun _ => pf (n + 7)) (pp := 0) hk hr hx hq er ex rfl rfl⟩
  · subst e
    obtain ⟨x, hx, ex⟩ := hgc (by decide) (by decide) (by decide) (by decide)
    rcases hkp with hkp | ⟨hkp, hm0⟩
    · by_cases hm : mode = 0
      · exact ⟨_, rD_1 (kd := fun _ => pf (n + 0)) (cl := fun _ => pf (n + 1)) (rg := fun _ => pf (n + 2)) (v1 := fun _ => pf (n + 3)) (i1 := fun _ => pf (n + 4)) (v2 := fun _ => pf (n + 5)) (i2 := fun _ => pf (n + 6)) (sk := fun _ => pf (n + 7)) (pp := 0) hk hx (hz6 hq) hkp hq ex rfl (Or.inl ⟨hm, rfl⟩)⟩
      · exact ⟨_, rD_1 (kd := fun _ => pf (n + 0)) (cl := fun _ => pf (n + 1)) (rg := fun _ => pf (n + 2)) (v1 := fun _ => pf (n + 3)) (i1 := fun _ => pf (n + 4)) (v2 := fun _ => pf (n + 5)) (i2 := fun _ => pf (n + 6)) (sk := fun _ => pf (n + 7)) (pp := 0) hk hx (hz6 hq) hkp hq ex rfl (Or.inr ⟨hm, rfl⟩)⟩
    · exact ⟨_, rD_t (kd := fun _ => pf (n + 0)) (cl := fun _ => pf (n + 1)) (rg := fun _ => pf (n + 2)) (v1 := fun _ => pf (n + 3)) (i1 := fun _ => pf (n + 4)) (v2 := fun _ => pf (n + 5)) (i2 := fun _ => pf (n + 6)) (sk := fun _ => pf (n + 7)) (pp := 0) hk hx hkp hq ex rfl (Or.inl ⟨hm0, rfl⟩) rfl rfl rfl⟩
  · subst e
    obtain ⟨r, hr, er⟩ := hgr (by decide) (by decide)
    exact ⟨_, rD_2 (kd := fun _ => pf (n + 0)) (cl := fun _ => pf (n + 1)) (rg := fun _ => pf (n + 2)) (v1 := fun _ => pf (n + 3)) (i1 := fun _ => pf (n + 4)) (v2 := fun _ => pf (n + 5)) (i2 := fun _ => pf (n + 6)) (sk := fun _ => pf (n + 7)) (pp := 0) hk hr hq er rfl rfl⟩
  · subst e
    obtain ⟨r, hr, er⟩ := hgr (by decide) (by decide)
    exact ⟨_, rD_3 (kd := fun _ => pf (n + 0)) (cl := fun _ => pf (n + 1)) (rg := fun _ => pf (n + 2)) (v1 := fun _ => pf (n + 3)) (i1 := fun _ => pf (n + 4)) (v2 := fun _ => pf (n + 5)) (i2 := fun _ => pf (n + 6)) (sk := fun _ => pf (n + 7)) (pp := 0) hk hr hq er rfl rfl rfl⟩
  · subst e
    exact ⟨_, rD_4 (kd := fun _ => pf (n + 0)) (cl := fun _ => pf (n + 1)) (rg := fun _ => pf (n + 2)) (v1 := fun _ => pf (n + 3)) (i1 := fun _ => pf (n + 4)) (v2 := fun _ => pf (n + 5)) (i2 := fun _ => pf (n + 6)) (sk := fun _ => pf (n + 7)) (pp := 0) hk hq rfl rfl⟩
  · obtain ⟨r, hr, er⟩ := hgr (by omega) (by omega)
    obtain ⟨x, hx, ex⟩ := hgc (by omega) (by omega) (by omega) (by omega)
    exact ⟨_, rD_l (kd := fun _ => pf (n + 0)) (cl := fun _ => pf (n + 1)) (rg := fun _ => pf (n + 2)) (v1 := fun _ => pf (n + 3)) (i1 := fun _ => pf (n + 4)) (v2 := fun _ => pf (n + 5)) (i2 := fun _ => pf (n + 6)) (sk := fun _ => pf (n + 7)) (pp := 0) hk hr hx e hq er ex rfl rfl rfl rfl rfl⟩
  · subst e
    obtain ⟨r, hr, er⟩ := hgr (by decide) (by decide)
    obtain ⟨y, hy, ey⟩ := hgs rfl
    by_cases h0 : upd w k (nI (nx k + 1)) ((3 + (3 * k)) + r) = 0
    · exact ⟨_, rD_8 (kd := fun _ => pf (n + 0)) (cl := fun _ => pf (n + 1)) (rg := fun _ => pf (n + 2)) (v1 := fun _ => pf (n + 3)) (i1 := fun _ => pf (n + 4)) (v2 := fun _ => pf (n + 5)) (i2 := fun _ => pf (n + 6)) (sk := fun _ => pf (n + 7)) (pp := 0) hk hr (by omega) hq er ey rfl (Or.inr ⟨h0, rfl⟩)⟩
    · exact ⟨_, rD_8 (kd := fun _ => pf (n + 0)) (cl := fun _ => pf (n + 1)) (rg := fun _ => pf (n + 2)) (v1 := fun _ => pf (n + 3)) (i1 := fun _ => pf (n + 4)) (v2 := fun _ => pf (n + 5)) (i2 := fun _ => pf (n + 6)) (sk := fun _ => pf (n + 7)) (pp := 0) hk hr (by omega) hq er ey rfl (Or.inl ⟨h0, rfl⟩)⟩
theorem gy_s3 {A B : Nat → Nat} {k v : Nat} (hk : k < 3) (h : B = updN A k v) : B 0 + B 1 + B 2 + A k = A 0 + A 1 + A 2 + v := by
  subst h
  rcases (show k = 0 ∨ k = 1 ∨ k = 2 by omega) with e | e | e <;> subst e
  · rw [updN_s, updN_n (by decide), updN_n (by decide)]
    omega
  · rw [updN_n (by decide), updN_s, updN_n (by decide)]
    omega
  · rw [updN_n (by decide), updN_n (by decide), updN_s]
    omega
theorem bI_sc (hm : m8 = 0 ∨ m8 = 1 ∨ m8 = 2) (hG : bG pf L nc) (h : bI pf L nc m8 d f) (hc : gCan f L nc x) : bI pf L nc m8 (d + 1) (gStep pf m8 f x) := by
  obtain ⟨h3, hL8, hgG, hsk, hst⟩ := hG
  obtain ⟨w, nx, rz, cs, st, hS, hM, hr, hn, hn0, hd⟩ := h
  rcases hc with ⟨k, hk, e, hz⟩ | ⟨k, hk, e, hz⟩
  · subst e
    rw [rS_sz hS hk] at hz
    rw [gStep_G hk]
    obtain ⟨w9, h9⟩ := rS_lgx hS hk hz
    have hs := gy_s3 (A := rz) (v := rz k - 1) hk rfl
    refine ⟨w9, _, _, _, _, h9, rM_le hM (fun j hj => ?_), fun j hj => ?_, hn, hn0, by omega⟩
    · by_cases q : j = k
      · subst q
        rw [updN_s]
        omega
      · rw [updN_n q]
        exact Nat.le_refl _
    · by_cases q : j = k
      · subst q
        rw [updN_s]
        have := hr j hj
        omega
      · rw [updN_n q]
        exact hr j hj
  · subst e
    have hk3 : k < 3 := by omega
    rw [rS_ne hS hk3] at hz
    have hL := hL8 k hk3
    have hI := hgG k hk3 (nx k) hz
    rw [gStep_K hk3, rS_ne hS hk3]
    generalize hnn : ((k * 8) + nx k) * 8 = n at hI ⊢
    have hz6 : pf (n + 0) = nI 1 → rz k < 6 := by
      intro h1
      have a := hr k hk3
      have b := gCt_s (pf := pf) (k := k) (i := nx k) (by rw [hnn]; exact h1)
      have c := gCt_mo (pf := pf) (k := k) (show nx k + 1 ≤ L k by omega)
      have g := hst k hk
      omega
    obtain ⟨mode, kp, hmd, hkp⟩ : ∃ mode kp : Int32, rMd m8 mode kp ∧ (kp = 0 ∨ ¬ kp = 0 ∧ mode = 0) := by
      rcases hm with e | e | e
      · exact ⟨m8, 0, Or.inl ⟨rfl, rfl, Or.inl e⟩, Or.inl rfl⟩
      · exact ⟨m8, 0, Or.inl ⟨rfl, rfl, Or.inr e⟩, Or.inl rfl⟩
      · exact ⟨0, 1, Or.inr ⟨by decide, rfl, e⟩, Or.inr ⟨by decide, rfl⟩⟩
    obtain ⟨w9, hw9⟩ := rDo_x (w := w) (nx := nx) (rz := rz) (mode := mode) (kp := kp) hk3 hI (fun a _ => hz6 a) hkp
    obtain ⟨nx9, rz9, cs9, st9, g1, g2, ⟨y, g3, g4⟩, g5⟩ := hw9 f pf n nc m8 cs st hS hM hmd hk (by omega) hI rP8_c
    have hy : nx k + 1 + y ≤ L k := by
      rcases g4 with e | ⟨a, b, c⟩
      · omega
      · exact hsk k (nx k) y hk hz (by rw [hnn]; exact a) b (by rw [hnn]; exact c)
    have s1 := gy_s3 hk3 g3
    have hle : nx k ≤ nx9 k := by
      rw [g3, updN_s]
      omega
    refine ⟨w9, nx9, rz9, cs9, st9, g1, g2, fun j hj => ?_, fun j hj => ?_, fun j a b => ?_, ?_⟩
    · by_cases q : j = k
      · subst q
        rcases g5 with e | ⟨a, _, b⟩
        · rw [e]
          exact Nat.le_trans (hr j hj) (gCt_mo hle)
        · rw [b, updN_s]
          have c := gCt_s (pf := pf) (k := j) (i := nx j) (by rw [hnn]; exact a)
          have g := gCt_mo (pf := pf) (k := j) (show nx j + 1 ≤ nx9 j by rw [g3, updN_s]; omega)
          have := hr j hj
          omega
      · have e1 : nx9 j = nx j := by rw [g3, updN_n q]
        have e2 : rz9 j = rz j := by
          rcases g5 with e | ⟨_, _, b⟩
          · rw [e]
          · rw [b, updN_n q]
        rw [e1, e2]
        exact hr j hj
    · by_cases q : j = k
      · subst q
        rw [g3, updN_s]
        exact hy
      · rw [g3, updN_n q]
        exact hn j hj
    · rw [g3, updN_n (by omega)]
      exact hn0 j a b
    · rcases g5 with e | ⟨_, _, b⟩
      · rw [e]
        omega
      · have s2 := gy_s3 hk3 b
        omega
theorem bI_s (hm : m8 = 0 ∨ m8 = 1 ∨ m8 = 2) (hG : bG pf L nc) (h : bI pf L nc m8 d f) (hc : gCE f pf L nc x) : bI pf L nc m8 (d + 1) (gStep pf m8 f x) := bI_sc hm hG h (hc.imp id (fun ⟨k, hk, e, hz, _⟩ => ⟨k, hk, e, hz⟩))
theorem gCE_ag {g : Nat → Int32} {wd : Nat} (h : gAg wd f g) (hw : 16 ≤ wd) (h3 : nc ≤ 3) : gCE f pf L nc x ↔ gCE g pf L nc x := by
  have e : ∀ k, k < 3 → f (13 + k) = g (13 + k) := fun k hk => h _ (by omega)
  constructor
  · rintro (⟨k, hk, a, b⟩ | ⟨k, hk, a, b, c⟩)
    · rw [e k hk] at b
      exact Or.inl ⟨k, hk, a, b⟩
    · rw [e k (by omega)] at b c
      exact Or.inr ⟨k, hk, a, b, c⟩
  · rintro (⟨k, hk, a, b⟩ | ⟨k, hk, a, b, c⟩)
    · rw [← e k hk] at b
      exact Or.inl ⟨k, hk, a, b⟩
    · rw [← e k (by omega)] at b c
      exact Or.inr ⟨k, hk, a, b, c⟩
theorem gAg_G {g : Nat → Int32} {wd : Nat} (h : gAg wd g f) (hw : wd = gWd m8 nc) (hb : bI pf L nc m8 d f) (hk : k < 3) (hz : 0 < gSz (f (13 + k))) : gAg wd (gLg g k) (gStep pf m8 f (nI (3 + k))) := by
  obtain ⟨w, nx, rz, cs, st, hS, hM, _⟩ := hb
  rw [rS_sz hS hk] at hz
  have h1 : m8 = 1 := Decidable.byContradiction (fun q => by have := hM.1 q k hk; omega)
  have h2 : k < nc := Decidable.byContradiction (fun q => by have := hM.2.2 k (by omega) hk; omega)
  unfold gWd at hw
  rw [if_pos h1] at hw
  rw [gStep_G hk]
  exact gAg_lg h (by omega) hk
theorem gAg_K {g : Nat → Int32} {wd : Nat} (h : gAg wd g f) (hw : wd = gWd m8 nc) (hG : bG pf L nc) (hb : bI pf L nc m8 d f) (hk : k < nc) (hz : gNx (f (13 + k)) < L k) : gAg wd (gMK pf g k (((k * 8) + gNx (g (13 + k))) * 8) m8) (gStep pf m8 f (nI k)) := by
  obtain ⟨h3, hL8, hgG, _⟩ := hG
  obtain ⟨w, nx, rz, cs, st, hS, hM, _⟩ := hb
  have hk3 : k < 3 := by omega
  have hw16 : 16 ≤ wd := by
    rw [hw]
    unfold gWd
    by_cases q : m8 = 1
    · rw [if_pos q]; omega
    · rw [if_neg q]; exact Nat.le_refl _
  have e := h (13 + k) (by omega)
  have hL := hL8 k hk3
  rw [gStep_K hk3, e]
  refine gAg_mk h hw16 hk3 (hgG k hk3 _ hz) ?_ (by rw [e]; omega)
  rw [e, rS_sz hS hk3]
  by_cases q : m8 = 1
  · unfold gWd at hw
    rw [if_pos q] at hw
    exact Or.inr ⟨(hS.2 k hk3).2.2.1, by omega⟩
  · exact Or.inl (hM.1 q k hk3)
theorem bRun_r {i n : Nat} (h : n < (bRun pf cf L nc m8 i).1) : (bRun pf cf L nc m8 (i + 1)).2.1 n = (bRun pf cf L nc m8 i).2.1 n ∧ n < (bRun pf cf L nc m8 (i + 1)).1 := by
  by_cases c : (bRun pf cf L nc m8 i).2.2.2 = true ∧ i / 6 < (bRun pf cf L nc m8 i).1
  · rw [bRun_s c]
    generalize bRun pf cf L nc m8 i = T at h
    by_cases a : gCE (T.2.1 (i / 6)) pf L nc (nI (i % 6)) ∧ ¬ bSeen (gWd m8 nc) T.1 T.2.1 (gStep pf m8 (T.2.1 (i / 6)) (nI (i % 6)))
    · by_cases b : T.1 < 3000
      · rw [bCell_a a.1 a.2 b]
        exact ⟨bUp_n (by omega), by show n < T.1 + 1; omega⟩
      · rw [bCell_f a.1 a.2 b]
        exact ⟨rfl, h⟩
    · rw [bCell_k a]
      exact ⟨rfl, h⟩
  · have e := bRun_k c 1
    rw [e]
    exact ⟨rfl, h⟩
theorem bRun_I (hm : m8 = 0 ∨ m8 = 1 ∨ m8 = 2) (hG : bG pf L nc) : ∀ i n, n < (bRun pf cf L nc m8 i).1 → ∃ d, bI pf L nc m8 d ((bRun pf cf L nc m8 i).2.1 n)
  | 0, n, _ => ⟨0, bI_0 hG.1⟩
  | i + 1, n, h => by
    have ih := bRun_I hm hG i
    by_cases c : (bRun pf cf L nc m8 i).2.2.2 = true ∧ i / 6 < (bRun pf cf L nc m8 i).1
    · rw [bRun_s c] at h ⊢
      have hp := ih (i / 6) c.2
      generalize bRun pf cf L nc m8 i = T at h ih hp ⊢
      by_cases a : gCE (T.2.1 (i / 6)) pf L nc (nI (i % 6)) ∧ ¬ bSeen (gWd m8 nc) T.1 T.2.1 (gStep pf m8 (T.2.1 (i / 6)) (nI (i % 6)))
      · by_cases b : T.1 < 3000
        · rw [bCell_a a.1 a.2 b] at h ⊢
          have h : n < T.1 + 1 := h
          show ∃ d, bI pf L nc m8 d (bUp T.2.1 T.1 (gStep pf m8 (T.2.1 (i / 6)) (nI (i % 6))) n)
          by_cases e : n = T.1
          · rw [e, bUp_s]
            obtain ⟨d, hd⟩ := hp
            exact ⟨d + 1, bI_s hm hG hd a.1⟩
          · rw [bUp_n e]
            exact ih n (by omega)
        · rw [bCell_f a.1 a.2 b] at h ⊢
          exact ih n h
      · rw [bCell_k a] at h ⊢
        exact ih n h
    · have e := bRun_k c 1
      rw [e] at h ⊢
      exact ih n h
def bIe (pf : Nat → Int32) (L : Nat → Nat) (nc : Nat) (m8 : Int32) (f : Nat → Int32) : Prop := ∃ d, bI pf L nc m8 d f
theorem bRun_J (hm : m8 = 0 ∨ m8 = 1 ∨ m8 = 2) (hG : bG pf L nc) (i n : Nat) (h : n < (bRun pf cf L nc m8 i).1) : bIe pf L nc m8 ((bRun pf cf L nc m8 i).2.1 n) := bRun_I hm hG i n h
end BII
section BXX
variable {pf cf rf rf9 cm cm9 sl sl9 f : Nat → Int32} {L : Nat → Nat} {nc wd sz sz9 : Nat} {z x m8 : Int32}
theorem bCl_0 (hk : gKq z 0 sz9 wd rf rf9 cm cm9 sl sl9 (gS0 cf) (-1)) : bCl (bRun pf cf L nc m8 (6 * 0)) wd sz9 rf9 cm9 ∧ gHt sl9 rf9 wd sz9 := by
  rcases hk with ⟨_, ⟨m, hm, _⟩, _⟩ | ⟨_, ⟨_, h⟩ | ⟨_, _, h3, _, h5, h6, h7⟩⟩
  · exact absurd hm (Nat.not_lt_zero m)
  · exact absurd h (by decide)
  · refine ⟨⟨rfl, ?_, fun n hn => ?_, fun n hn => ?_⟩, h7⟩
    · rw [h3]
      rfl
    · have e : n = 0 := by omega
      subst e
      exact fun j hj => h5 j hj
    · have e : n = 0 := by omega
      subst e
      rw [h6]
      exact pk_us
theorem gHt_kp (hH : gHt sl rf wd sz) (hz : ¬ z = 0) (hk : gKq z sz sz9 wd rf rf9 cm cm9 sl sl9 f x) : gHt sl9 rf9 wd sz9 := by
  rcases hk with ⟨_, _, h3, h4, _, h6⟩ | ⟨_, ⟨h, _⟩ | ⟨_, _, _, _, _, _, h7⟩⟩
  · rw [h3, h4, h6]
    exact hH
  · exact absurd h hz
  · exact h7
theorem gWd_e {mode : Int32} {w : Nat} (h : (mode = 1 ∧ w = 16 + (nc * 6)) ∨ (¬ mode = 1 ∧ w = 16)) : w = gWd mode nc := by
  unfold gWd
  rcases h with ⟨a, b⟩ | ⟨a, b⟩
  · rw [if_pos a]; exact b
  · rw [if_neg a]; exact b
end BXX
