
/-- how the class's mode goes with the reference's -/
def rMd (m8 mode kp : Int32) : Prop := (kp = 0 ∧ m8 = mode ∧ (mode = 0 ∨ mode = 1)) ∨ (¬ kp = 0 ∧ mode = 0 ∧ m8 = 2)
/-- STATES behind a step k, and where they stand -/
def rRk (pf : Nat → Int32) (n k : Nat) (nx rz : Nat → Nat) (m8 : Int32) (nc : Nat) (f9 w9 : Nat → Int32) : Prop := ∃ nx9 rz9 cs9 st9 : Nat → Nat, rS f9 w9 nx9 rz9 cs9 st9 ∧ rM m8 nc rz9 st9 ∧ (∃ y, nx9 = updN nx k (nx k + 1 + y) ∧ (y = 0 ∨ (pf (n + 0) = nI 8 ∧ y ≤ 7 ∧ pf (n + 7) = nI y))) ∧ (rz9 = rz ∨ (pf (n + 0) = nI 1 ∧ m8 = 1 ∧ rz9 = updN rz k (rz k + 1)))
/-- what a step k of the reference does to its STATE, over the class's -/
def rDo (kd cl rg v1 i1 v2 i2 sk w : Nat → Int32) (nx rz : Nat → Nat) (mode kp : Int32) (k pp : Nat) (w9 : Nat → Int32) : Prop := ∀ (f pf : Nat → Int32) (n nc : Nat) (m8 : Int32) (cs st : Nat → Nat), rS f w nx rz cs st → rM m8 nc rz st → rMd m8 mode kp → k < nc → nx k < 8 → gIns pf n 7 → (∀ c, c < 8 → rP8 kd cl rg v1 i1 v2 i2 sk pp c = pf (n + c)) → rRk pf n k nx rz m8 nc (gMK pf f k n m8) w9
section RDD
variable {f w pf kd cl rg v1 i1 v2 i2 sk : Nat → Int32} {k r x y n nc j pp q : Nat} {z v u m8 mode kp : Int32} {nx rz cs st : Nat → Nat}
theorem gMK_0 (hq : pf (n + 0) = nI 0) (er : pf (n + 2) = nI r) (ex : pf (n + 1) = nI x) (hr : r < 3) (hx : x < 4) : gMK pf f k n m8 = upd (gF1 f k) ((k * 3) + r) (gSn (gF1 f k) k x (gSz (gF1 f k (13 + k)))) := by
  unfold gMK
  rw [hq, er, ex, nI_clamp (n := 0) (by decide), nI_clamp (n := r) (by omega), nI_clamp (n := x) (by omega)]
  rfl
theorem gMK_1 (hq : pf (n + 0) = nI 1) (ex : pf (n + 1) = nI x) (hx : x < 4) : gMK pf f k n m8 = gPt (gF1 f k) k x (gVl pf (gF1 f k) (n + 3) k) m8 := by
  unfold gMK
  rw [hq, ex, nI_clamp (n := 1) (by decide), nI_clamp (n := x) (by omega)]
  rfl
theorem gMK_2 (hq : pf (n + 0) = nI 2) (er : pf (n + 2) = nI r) (hr : r < 3) : gMK pf f k n m8 = upd (gF1 f k) ((k * 3) + r) (gVl pf (gF1 f k) (n + 3) k) := by
  unfold gMK
  rw [hq, er, nI_clamp (n := 2) (by decide), nI_clamp (n := r) (by omega)]
  rfl
theorem gMK_3 (hq : pf (n + 0) = nI 3) (er : pf (n + 2) = nI r) (hr : r < 3) : gMK pf f k n m8 = upd (gF1 f k) ((k * 3) + r) (gF1 f k ((k * 3) + r) + gVl pf (gF1 f k) (n + 3) k) := by
  unfold gMK
  rw [hq, er, nI_clamp (n := 3) (by decide), nI_clamp (n := r) (by omega)]
  rfl
theorem gMK_4 (hq : pf (n + 0) = nI 4) : gMK pf f k n m8 = gFs (gF1 f k) k := by
  unfold gMK
  rw [hq, nI_clamp (n := 4) (by decide)]
  rfl
theorem gMK_8 (hq : pf (n + 0) = nI 8) (er : pf (n + 2) = nI r) (ey : pf (n + 7) = nI y) (hr : r < 3) (hy : y ≤ 7) : gMK pf f k n m8 = upd (gF1 f k) (13 + k) (gF1 f k (13 + k) + (if gF1 f k ((k * 3) + r) = 0 then 0 else nI y)) := by
  unfold gMK
  rw [hq, er, ey, nI_clamp (n := 8) (by decide), nI_clamp (n := r) (by omega), nI_clamp (n := y) (by omega)]
  rfl
theorem gMK_l (hq : pf (n + 0) = nI q) (h5 : q = 5 ∨ q = 6 ∨ q = 7) (er : pf (n + 2) = nI r) (ex : pf (n + 1) = nI x) (hr : r < 3) (hx : x < 4) : gMK pf f k n m8 = gFs (gLk (gF1 f k) (9 + x) ((k * 3) + r) (nI q) (gVl pf (gF1 f k) (n + 3) k) (gVl pf (gF1 f k) (n + 5) k)) k := by
  unfold gMK
  rw [er, ex, nI_clamp (n := r) (by omega), nI_clamp (n := x) (by omega), hq, nI_clamp (n := q) (by omega)]
  rcases h5 with e | e | e <;> subst e
  · show gFs (gLk (gF1 f k) (9 + x) ((k * 3) + r) (pf (n + 0)) (gVl pf (gF1 f k) (n + 3) k) (gVl pf (gF1 f k) (n + 5) k)) k = _
    rw [hq]
  · show gFs (gLk (gF1 f k) (9 + x) ((k * 3) + r) (pf (n + 0)) (gVl pf (gF1 f k) (n + 3) k) (gVl pf (gF1 f k) (n + 5) k)) k = _
    rw [hq]
  · show gFs (gLk (gF1 f k) (9 + x) ((k * 3) + r) (pf (n + 0)) (gVl pf (gF1 f k) (n + 3) k) (gVl pf (gF1 f k) (n + 5) k)) k = _
    rw [hq]
theorem rD_v1 (hS : rS f w nx rz cs st) (hk : k < 3) (hI : gIns pf n 7) (hE : ∀ c, c < 8 → rP8 kd cl rg v1 i1 v2 i2 sk pp c = pf (n + c)) : gVl pf (gF1 f k) (n + 3) k = rTk w k (v1 pp) (i1 pp) := by
  obtain ⟨_, _, _, _, _, h3, _, _⟩ := hI
  rw [rS_vl hS hk h3]
  have e3 : v1 pp = pf (n + 3) := hE 3 (by decide)
  have e4 : i1 pp = pf (n + 4) := hE 4 (by decide)
  rw [e3, e4]
theorem rD_v2 (hS : rS f w nx rz cs st) (hk : k < 3) (hI : gIns pf n 7) (hE : ∀ c, c < 8 → rP8 kd cl rg v1 i1 v2 i2 sk pp c = pf (n + c)) : gVl pf (gF1 f k) (n + 5) k = rTk w k (v2 pp) (i2 pp) := by
  obtain ⟨_, _, _, _, _, _, h5, _⟩ := hI
  rw [rS_vl hS hk h5]
  have e3 : v2 pp = pf (n + 5) := hE 5 (by decide)
  have e4 : i2 pp = pf (n + 6) := hE 6 (by decide)
  rw [e3, e4]
theorem rD_no (hI : gIns pf n 7) (hE : ∀ c, c < 8 → rP8 kd cl rg v1 i1 v2 i2 sk pp c = pf (n + c)) (hq : kd pp = nI q) (hq8 : q ≤ 8) (h1 : q ≠ 1) (h4 : q ≠ 4) (hneg : rg pp < 0) : False := by
  obtain ⟨q', hq', e0, hr, _⟩ := hI
  have e : kd pp = pf (n + 0) := hE 0 (by decide)
  have eq' : q = q' := (nI_eq (by omega) (by omega)).mp (hq.symm.trans (e.trans e0))
  subst eq'
  obtain ⟨r, hr3, er⟩ := hr h1 h4
  have e2 : rg pp = pf (n + 2) := hE 2 (by decide)
  rw [e2, er] at hneg
  exact nI_pos (by omega) hneg
theorem rD_0 (hk : k < 3) (hr : r < 3) (hx : x < 4) (hq : kd pp = nI 0) (er : rg pp = nI r) (ex : cl pp = nI x) (hj : j = (3 + (3 * k)) + r) (hz : z = rLd (upd w k (nI (nx k + 1))) k x (rz k)) : rDo kd cl rg v1 i1 v2 i2 sk w nx rz mode kp k pp (upd (upd w k (nI (nx k + 1))) j z) := by
  intro f pf n nc m8 cs st hS hM _ _ hn hI hE
  have h1 := rS_f1 hS hk (by omega)
  subst hj
  have e0 : kd pp = pf (n + 0) := hE 0 (by decide)
  have e1 : cl pp = pf (n + 1) := hE 1 (by decide)
  have e2 : rg pp = pf (n + 2) := hE 2 (by decide)
  rw [gMK_0 (e0.symm.trans hq) (e2.symm.trans er) (e1.symm.trans ex) hr hx, rS_sz h1 hk, rS_sn h1 hk hx _ (h1.2 k hk).2.2.1, ← hz]
  exact ⟨_, _, _, _, rS_rg h1 hk hr, hM, ⟨0, rfl, Or.inl rfl⟩, Or.inl rfl⟩
theorem rD_1 {w9 : Nat → Int32} (hk : k < 3) (hx : x < 4) (hz6 : ¬ mode = 0 → rz k < 6) (hkp : kp = 0) (hq : kd pp = nI 1) (ex : cl pp = nI x) (hv : v = rTk w k (v1 pp) (i1 pp)) (hw : (mode = 0 ∧ w9 = upd (upd w k (nI (nx k + 1))) (12 + x) v) ∨ (¬ mode = 0 ∧ w9 = upd (upd (upd (upd w k (nI (nx k + 1))) (((16 + (13 * k)) + 1) + (2 * rz k)) (nI x)) (((16 + (13 * k)) + 2) + (2 * rz k)) v) (16 + (13 * k)) (nI (rz k + 1)))) : rDo kd cl rg v1 i1 v2 i2 sk w nx rz mode kp k pp w9 := by
  intro f pf n nc m8 cs st hS hM hm hkc hn hI hE
  have h1 := rS_f1 hS hk (by omega)
  have e0 : kd pp = pf (n + 0) := hE 0 (by decide)
  have e1 : cl pp = pf (n + 1) := hE 1 (by decide)
  rw [gMK_1 (e0.symm.trans hq) (e1.symm.trans ex) hx, rD_v1 hS hk hI hE, ← hv]
  rcases hm with ⟨_, em, h01⟩ | ⟨hn0, _⟩
  · subst em
    rcases hw with ⟨hm0, ew⟩ | ⟨hm1, ew⟩
    · subst ew; subst hm0
      unfold gPt gPm
      rw [if_neg (by decide), if_neg (by decide)]
      exact ⟨_, _, _, _, rS_me h1 hx, hM, ⟨0, rfl, Or.inl rfl⟩, Or.inl rfl⟩
    · subst ew
      have h1m : m8 = 1 := h01.resolve_left hm1
      subst h1m
      unfold gPt
      rw [if_pos rfl, if_neg (by rw [rS_sz h1 hk]; have := hz6 hm1; omega)]
      exact ⟨_, _, _, _, rS_pr h1 hk hx (hz6 hm1) (hM.2.1 (by decide) k hk), rM_pr hM rfl hkc, ⟨0, rfl, Or.inl rfl⟩, Or.inr ⟨e0.symm.trans hq, rfl, rfl⟩⟩
  · exact absurd hkp hn0
theorem rD_t (hk : k < 3) (hx : x < 4) (hkp : ¬ kp = 0) (hq : kd pp = nI 1) (ex : cl pp = nI x) (hv : v = rTk w k (v1 pp) (i1 pp)) {w8 : Nat → Int32} (hw : (mode = 0 ∧ w8 = upd (upd w k (nI (nx k + 1))) (12 + x) v) ∨ ¬ mode = 0) {y8 : Int32} (ey8 : y8 = nI x) (hj : j = 55 + k) (hz : z = w8 (55 + k) ||| (1 <<< (y8 &&& 31))) : rDo kd cl rg v1 i1 v2 i2 sk w nx rz mode kp k pp (upd w8 j z) := by
  intro f pf n nc m8 cs st hS hM hm hkc hn hI hE
  have h1 := rS_f1 hS hk (by omega)
  subst hj
  have e0 : kd pp = pf (n + 0) := hE 0 (by decide)
  have e1 : cl pp = pf (n + 1) := hE 1 (by decide)
  rw [gMK_1 (e0.symm.trans hq) (e1.symm.trans ex) hx, rD_v1 hS hk hI hE, ← hv]
  rcases hm with ⟨h0, _⟩ | ⟨_, m0, m2⟩
  · exact absurd h0 hkp
  · subst m2
    obtain ⟨_, ew⟩ := hw.resolve_right (fun q => q m0)
    subst ew
    have h2 := rS_me (z := v) h1 hx
    have e5 : upd (upd w k (nI (nx k + 1))) (12 + x) v (55 + k) = nI (st k) := (h2.2 k hk).2.2.2.2.2.2.2.1
    rw [ey8, e5, gt_c _ (h2.2 k hk).2.2.2.2.1 x hx] at hz
    unfold gPt gPm
    rw [if_neg (by decide), if_pos rfl]
    exact ⟨_, _, _, _, rS_tr h2 hk hx hz, rM_tr hM rfl, ⟨0, rfl, Or.inl rfl⟩, Or.inl rfl⟩
theorem rD_2 (hk : k < 3) (hr : r < 3) (hq : kd pp = nI 2) (er : rg pp = nI r) (hj : j = (3 + (3 * k)) + r) (hv : v = rTk w k (v1 pp) (i1 pp)) : rDo kd cl rg v1 i1 v2 i2 sk w nx rz mode kp k pp (upd (upd w k (nI (nx k + 1))) j v) := by
  intro f pf n nc m8 cs st hS hM _ _ hn hI hE
  have h1 := rS_f1 hS hk (by omega)
  subst hj
  have e0 : kd pp = pf (n + 0) := hE 0 (by decide)
  have e2 : rg pp = pf (n + 2) := hE 2 (by decide)
  rw [gMK_2 (e0.symm.trans hq) (e2.symm.trans er) hr, rD_v1 hS hk hI hE, ← hv]
  exact ⟨_, _, _, _, rS_rg h1 hk hr, hM, ⟨0, rfl, Or.inl rfl⟩, Or.inl rfl⟩
theorem rD_3 (hk : k < 3) (hr : r < 3) (hq : kd pp = nI 3) (er : rg pp = nI r) (hj : j = (3 + (3 * k)) + r) (hv : v = rTk w k (v1 pp) (i1 pp)) (hz : z = upd w k (nI (nx k + 1)) j + v) : rDo kd cl rg v1 i1 v2 i2 sk w nx rz mode kp k pp (upd (upd w k (nI (nx k + 1))) j z) := by
  intro f pf n nc m8 cs st hS hM _ _ hn hI hE
  have h1 := rS_f1 hS hk (by omega)
  subst hj
  have e0 : kd pp = pf (n + 0) := hE 0 (by decide)
  have e2 : rg pp = pf (n + 2) := hE 2 (by decide)
  have eR := (h1.2 k hk).2.2.2.2.2.2.2.2.1 r hr
  rw [gMK_3 (e0.symm.trans hq) (e2.symm.trans er) hr, rD_v1 hS hk hI hE, ← hv, eR, ← hz]
  exact ⟨_, _, _, _, rS_rg h1 hk hr, hM, ⟨0, rfl, Or.inl rfl⟩, Or.inl rfl⟩
theorem rD_4 (hk : k < 3) (hq : kd pp = nI 4) {w8 : Nat → Int32} (hw : w8 = upd w k (nI (nx k + 1))) (hj : j = 55 + k) : rDo kd cl rg v1 i1 v2 i2 sk w nx rz mode kp k pp (upd w8 j 0) := by
  intro f pf n nc m8 cs st hS hM _ _ hn hI hE
  have h1 := rS_f1 hS hk (by omega)
  subst hj; subst hw
  have e0 : kd pp = pf (n + 0) := hE 0 (by decide)
  rw [gMK_4 (e0.symm.trans hq)]
  exact ⟨_, _, _, _, rS_fs h1 hk, rM_st hM, ⟨0, rfl, Or.inl rfl⟩, Or.inl rfl⟩
theorem rS_lo (h : rS f w nx rz cs st) (hk : k < 3) (hr : r < 3) (hx : x < 4) : rS (gLk f (9 + x) ((k * 3) + r) z v u) (rLo w z ((3 + (3 * k)) + r) x v u) nx rz cs st := by
  have eM := h.1 x hx
  have eR := (h.2 k hk).2.2.2.2.2.2.2.2.1 r hr
  unfold gLk rLo
  rw [eM, eR]
  by_cases c5 : z = 5
  · rw [if_pos c5, if_pos c5, upd_cm (show 12 + x ≠ (3 + (3 * k)) + r by omega)]
    exact rS_me (rS_rg h hk hr) hx
  · rw [if_neg c5, if_neg c5]
    by_cases c6 : z = 6
    · rw [if_pos c6, if_pos c6, upd_cm (show 12 + x ≠ (3 + (3 * k)) + r by omega)]
      exact rS_me (rS_rg h hk hr) hx
    · rw [if_neg c6, if_neg c6]
      by_cases c7 : w (12 + x) = v
      · rw [if_pos c7, if_pos c7, upd_cm (show 12 + x ≠ (3 + (3 * k)) + r by omega)]
        exact rS_me (rS_rg h hk hr) hx
      · rw [if_neg c7, if_neg c7, upd_id]
        exact rS_rg h hk hr
theorem rD_l (hk : k < 3) (hr : r < 3) (hx : x < 4) (h5 : q = 5 ∨ q = 6 ∨ q = 7) (hq : kd pp = nI q) (er : rg pp = nI r) (ex : cl pp = nI x) (hv : v = rTk w k (v1 pp) (i1 pp)) (hu : u = rTk w k (v2 pp) (i2 pp)) {w8 : Nat → Int32} {j8 : Nat} (hj8 : j8 = (3 + (3 * k)) + r) (hw : w8 = rLo (upd w k (nI (nx k + 1))) (nI q) j8 x v u) (hj : j = 55 + k) : rDo kd cl rg v1 i1 v2 i2 sk w nx rz mode kp k pp (upd w8 j 0) := by
  intro f pf n nc m8 cs st hS hM _ _ hn hI hE
  have h1 := rS_f1 hS hk (by omega)
  subst hj; subst hj8; subst hw
  have e0 : kd pp = pf (n + 0) := hE 0 (by decide)
  have e1 : cl pp = pf (n + 1) := hE 1 (by decide)
  have e2 : rg pp = pf (n + 2) := hE 2 (by decide)
  rw [gMK_l (e0.symm.trans hq) h5 (e2.symm.trans er) (e1.symm.trans ex) hr hx, rD_v1 hS hk hI hE, rD_v2 hS hk hI hE, ← hv, ← hu]
  exact ⟨_, _, _, _, rS_fs (rS_lo h1 hk hr hx) hk, rM_st hM, ⟨0, rfl, Or.inl rfl⟩, Or.inl rfl⟩
theorem rD_8 {t : Nat} (hk : k < 3) (hr : r < 3) (hy : y ≤ 11) (hq : kd pp = nI 8) (er : rg pp = nI r) (ey : sk pp = nI y) (hj : j = (3 + (3 * k)) + r) (hz : (¬ upd w k (nI (nx k + 1)) j = 0 ∧ t = nx k + 1 + y) ∨ (upd w k (nI (nx k + 1)) j = 0 ∧ t = nx k + 1)) : rDo kd cl rg v1 i1 v2 i2 sk w nx rz mode kp k pp (upd (upd w k (nI (nx k + 1))) k (nI t)) := by
  intro f pf n nc m8 cs st hS hM _ _ hn hI hE
  have h1 := rS_f1 hS hk (by omega)
  subst hj
  have e0 : kd pp = pf (n + 0) := hE 0 (by decide)
  have e2 : rg pp = pf (n + 2) := hE 2 (by decide)
  have e7 : sk pp = pf (n + 7) := hE 7 (by decide)
  have hy7 : y ≤ 7 := by
    obtain ⟨q', hq', g0, _, _, _, _, gs⟩ := hI
    have eq' : q' = 8 := (nI_eq (by omega) (by decide)).mp (g0.symm.trans (e0.symm.trans hq))
    obtain ⟨y', hy', ey'⟩ := gs eq'
    have e := (nI_eq (by omega) (by omega)).mp (ey.symm.trans (e7.trans ey'))
    omega
  have eR := (h1.2 k hk).2.2.2.2.2.2.2.2.1 r hr
  have eN : updN nx k (nx k + 1) k = nx k + 1 := updN_s
  rw [gMK_8 (e0.symm.trans hq) (e2.symm.trans er) (e7.symm.trans ey) hr hy7, eR]
  rcases hz with ⟨hne, et⟩ | ⟨h0, et⟩
  · subst et
    rw [if_neg hne]
    have h2 := rS_nx (y := y) h1 hk (by rw [eN]; omega)
    rw [eN] at h2
    exact ⟨_, _, _, _, h2, hM, ⟨y, updN_tw rfl, Or.inr ⟨e0.symm.trans hq, hy7, e7.symm.trans ey⟩⟩, Or.inl rfl⟩
  · subst et
    rw [if_pos h0]
    have h2 := rS_nx (y := 0) h1 hk (by rw [eN]; omega)
    rw [eN] at h2
    exact ⟨_, _, _, _, h2, hM, ⟨0, updN_tw rfl, Or.inl rfl⟩, Or.inl rfl⟩
end RDD
