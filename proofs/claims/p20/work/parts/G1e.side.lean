
theorem updN_id {L : Nat → Nat} {k : Nat} : updN L k (L k) = L := by
  funext j
  by_cases e : j = k
  · subst e; exact updN_s
  · exact updN_n e
theorem upd_id {f : Nat → Int32} {k : Nat} : upd f k (f k) = f := by
  funext j
  by_cases e : j = k
  · subst e; exact pk_us
  · exact pk_un e
theorem upd_cm {f : Nat → Int32} {i j : Nat} {x y : Int32} (h : i ≠ j) : upd (upd f i x) j y = upd (upd f j y) i x := by
  funext t
  by_cases e : t = j
  · subst e
    rw [pk_us, pk_un (fun q => h q.symm), pk_us]
  · rw [pk_un e]
    by_cases e2 : t = i
    · subst e2
      rw [pk_us, pk_us]
    · rw [pk_un e2, pk_un e2, pk_un e]
/-- what a load of the reference sees among i stores that wait -/
def rLd (w : Nat → Int32) (k x : Nat) : Nat → Int32
  | 0 => w (12 + x)
  | i + 1 => if w (((16 + (13 * k)) + 1) + (2 * i)) = nI x then w (((16 + (13 * k)) + 2) + (2 * i)) else rLd w k x i
theorem rLd_hit {w : Nat → Int32} {k x i : Nat} (hi : 0 < i) (h : w (((16 + (13 * k)) + 1) + (2 * (i - 1))) = nI x) : rLd w k x i = w (((16 + (13 * k)) + 2) + (2 * (i - 1))) := by
  obtain ⟨j, rfl⟩ : ∃ j, i = j + 1 := ⟨i - 1, by omega⟩
  exact if_pos h
theorem rLd_miss {w : Nat → Int32} {k x i : Nat} (hi : 0 < i) (h : ¬ w (((16 + (13 * k)) + 1) + (2 * (i - 1))) = nI x) : rLd w k x i = rLd w k x (i - 1) := by
  obtain ⟨j, rfl⟩ : ∃ j, i = j + 1 := ⟨i - 1, by omega⟩
  exact if_neg h
def rTk (w : Nat → Int32) (k : Nat) (r v : Int32) : Int32 := if r < 0 then v else w ((3 + (3 * k)) + r.toNatClampNeg)
def rLo (w : Nat → Int32) (y : Int32) (r x : Nat) (v u : Int32) : Nat → Int32 := if y = 5 then upd (upd w (12 + x) (w r)) r (w (12 + x)) else if y = 6 then upd (upd w (12 + x) (w (12 + x) + v)) r (w (12 + x)) else upd (upd w (12 + x) (if w (12 + x) = v then u else w (12 + x))) r (w (12 + x))
section RST
variable {f g w v : Nat → Int32} {k a b c d r x y i n : Nat} {z : Int32} {nx rz cs st : Nat → Nat} {pf : Nat → Int32}
theorem rS_k (h : rS f w nx rz cs st) (hk : k < 3) (hm : ∀ c, c < 4 → g (9 + c) = v (12 + c)) (hc : rC g v k a b c d) (hf : ∀ j, j ≠ 13 + k → (j < k * 3 ∨ k * 3 + 3 ≤ j) → (j < 16 + k * 6 ∨ 22 + k * 6 ≤ j) → (j < 9 ∨ 13 ≤ j) → g j = f j) (hw : ∀ j, j ≠ k → j ≠ 55 + k → (j < 3 + 3 * k ∨ 6 + 3 * k ≤ j) → (j < 16 + 13 * k ∨ 29 + 13 * k ≤ j) → (j < 12 ∨ 16 ≤ j) → v j = w j) : rS g v (updN nx k a) (updN rz k b) (updN cs k c) (updN st k d) := by
  refine ⟨hm, fun q hq => ?_⟩
  by_cases e : q = k
  · subst e
    rw [updN_s, updN_s, updN_s, updN_s]
    exact hc
  · rw [updN_n e, updN_n e, updN_n e, updN_n e]
    exact rC_ext (h.2 q hq) (fun j hj => hf j (by omega) (by omega) (by omega) (by omega)) (fun j hj => hw j (by omega) (by omega) (by omega) (by omega) (by omega))
theorem rS_nx (h : rS f w nx rz cs st) (hk : k < 3) (hy : nx k + y < 16) : rS (upd f (13 + k) (f (13 + k) + nI y)) (upd w k (nI (nx k + y))) (updN nx k (nx k + y)) rz cs st := by
  have := rS_k h hk (g := upd f (13 + k) (f (13 + k) + nI y)) (v := upd w k (nI (nx k + y))) (fun c hc => by rw [pk_un (by omega), pk_un (by omega)]; exact h.1 c hc) (rC_nx hk (h.2 k hk) hy) (fun j h1 _ _ _ => pk_un h1) (fun j h1 _ _ _ _ => pk_un h1)
  rw [updN_id, updN_id, updN_id] at this
  exact this
theorem rS_f1 (h : rS f w nx rz cs st) (hk : k < 3) (hy : nx k + 1 < 16) : rS (gF1 f k) (upd w k (nI (nx k + 1))) (updN nx k (nx k + 1)) rz cs st := rS_nx (y := 1) h hk hy
theorem rS_rg (h : rS f w nx rz cs st) (hk : k < 3) (hr : r < 3) : rS (upd f ((k * 3) + r) z) (upd w ((3 + (3 * k)) + r) z) nx rz cs st := by
  have := rS_k h hk (g := upd f ((k * 3) + r) z) (v := upd w ((3 + (3 * k)) + r) z) (fun c hc => by rw [pk_un (by omega), pk_un (by omega)]; exact h.1 c hc) (rC_rg hk hr (h.2 k hk)) (fun j _ h2 _ _ => pk_un (by omega)) (fun j _ _ h3 _ _ => pk_un (by omega))
  rw [updN_id, updN_id, updN_id, updN_id] at this
  exact this
theorem rS_me (h : rS f w nx rz cs st) (hx : x < 4) : rS (upd f (9 + x) z) (upd w (12 + x) z) nx rz cs st := by
  refine ⟨fun c hc => ?_, fun q hq => rC_ext (h.2 q hq) (fun j hj => pk_un (by omega)) (fun j hj => pk_un (by omega))⟩
  by_cases e : c = x
  · subst e
    rw [pk_us, pk_us]
  · rw [pk_un (by omega), pk_un (by omega)]
    exact h.1 c hc
theorem rS_fs (h : rS f w nx rz cs st) (hk : k < 3) : rS (gFs f k) (upd w (55 + k) 0) nx rz cs (updN st k 0) := by
  have := rS_k h hk (g := gFs f k) (v := upd w (55 + k) 0) (fun c hc => by unfold gFs; rw [pk_un (by omega), pk_un (by omega)]; exact h.1 c hc) (rC_fs hk (h.2 k hk)) (fun j h1 _ _ _ => pk_un h1) (fun j _ h2 _ _ _ => pk_un h2)
  rw [updN_id, updN_id, updN_id] at this
  exact this
theorem rS_tr (h : rS f w nx rz cs st) (hk : k < 3) (hx : x < 4) (hz : z = nI (st k ||| 2 ^ x)) : rS (upd f (13 + k) (f (13 + k) ||| (1 <<< (((nI (19 + x)) : Int32) &&& 31)))) (upd w (55 + k) z) nx rz cs (updN st k (st k ||| 2 ^ x)) := by
  have := rS_k h hk (g := upd f (13 + k) (f (13 + k) ||| (1 <<< (((nI (19 + x)) : Int32) &&& 31)))) (v := upd w (55 + k) z) (fun c hc => by rw [pk_un (by omega), pk_un (by omega)]; exact h.1 c hc) (rC_tr hk hx (h.2 k hk) hz) (fun j h1 _ _ _ => pk_un h1) (fun j _ h2 _ _ _ => pk_un h2)
  rw [updN_id, updN_id, updN_id] at this
  exact this
theorem rS_pr (h : rS f w nx rz cs st) (hk : k < 3) (hx : x < 4) (hb : rz k < 6) (hs : st k = 0) : rS (gPr f k x z) (upd (upd (upd w (((16 + (13 * k)) + 1) + (2 * rz k)) (nI x)) (((16 + (13 * k)) + 2) + (2 * rz k)) z) (16 + (13 * k)) (nI (rz k + 1))) nx (updN rz k (rz k + 1)) (updN cs k (cs k + x * 4 ^ rz k)) st := by
  have hc := h.2 k hk
  rw [hs] at hc
  have hsz : gSz (f (13 + k)) = rz k := by rw [hc.1]; exact gPw_sz hc.2.1 (by omega) (gcs_12 hc.2.2.1 hc.2.2.2.1) (by decide)
  have := rS_k h hk (fun c hc => by unfold gPr; rw [pk_un (by omega), pk_un (by omega), pk_un (by omega), pk_un (by omega), pk_un (by omega), pk_un (by omega)]; exact h.1 c hc) (rC_pr hk hx hc hb (z := z)) (fun j h1 _ h3 _ => by unfold gPr; rw [hsz, pk_un h1, pk_un h1, pk_un (by omega)]) (fun j _ _ _ h4 _ => by rw [pk_un (by omega), pk_un (by omega), pk_un (by omega)])
  have e0 : updN st k 0 = st := by
    rw [← hs]
    exact updN_id
  rw [updN_id, e0] at this
  exact this
theorem rS_lg {w9 : Nat → Int32} {p q x0 : Nat} (h : rS f w nx rz cs st) (hk : k < 3) (hb : 0 < rz k) (hx0 : x0 < 4) (ex : w ((16 + (13 * k)) + 1) = nI x0) (hg : gGo w w9 k (rz k - 1) (2 * (rz k - 1))) (hm : ∀ c, c < 4 → w9 (12 + c) = upd w (12 + x0) (w ((16 + (13 * k)) + 2)) (12 + c)) (hp : p = 17 + 13 * k + 2 * (rz k - 1)) (hq : q = 18 + 13 * k + 2 * (rz k - 1)) : rS (gLg f k) (upd (upd w9 p 0) q 0) nx (updN rz k (rz k - 1)) (updN cs k (cs k / 4)) st := by
  have hc := h.2 k hk
  obtain ⟨c1, c2, c3, c4, c5, _, _, _, _, c10, _⟩ := id hc
  have h6 : rz k ≤ 6 := c3
  have ecl : gCl (f (13 + k)) 0 = x0 := by
    rw [c1, gPw_cl (by decide) c2 (by omega) (gcs_12 c3 c4) c5]
    have e := (c10 0 (by decide)).2
    rw [show ((16 + (13 * k)) + 1) + (2 * 0) = (16 + (13 * k)) + 1 by omega, ex] at e
    exact ((nI_eq (by omega) (by omega)).mp e).symm
  have er : f (16 + (k * 6)) = w ((16 + (13 * k)) + 2) := by
    have e := (c10 0 (by decide)).1
    rw [show ((16 + (13 * k)) + 2) + (2 * 0) = (16 + (13 * k)) + 2 by omega, show (16 + (k * 6)) + 0 = 16 + (k * 6) by omega] at e
    exact e
  have hcl := gCl_lt (f (13 + k)) 0
  have hmem : ∀ c, c < 4 → gLg f k (9 + c) = upd (upd w9 p 0) q 0 (12 + c) := by
    intro c hc4
    have eR : upd (upd w9 p 0) q 0 (12 + c) = upd w (12 + x0) (w ((16 + (13 * k)) + 2)) (12 + c) := by
      rw [pk_un (by omega), pk_un (by omega)]
      exact hm c hc4
    rw [eR]
    unfold gLg
    rw [pk_un (by omega), pk_un (by omega), pk_cpy_out (by omega), ecl, er]
    by_cases e : c = x0
    · subst e
      rw [pk_us, pk_us]
    · rw [pk_un (by omega), pk_un (by omega)]
      exact h.1 c hc4
  have := rS_k h hk hmem (rC_lg hk hc hb hg hp hq) (fun j h1 _ h3 h4 => by unfold gLg; rw [pk_un h1, pk_un (by omega), pk_cpy_out (by omega), pk_un (by omega)]) (fun j _ _ _ h4 h5 => by rw [pk_un (by omega), pk_un (by omega)]; exact hg.1 j h5 h4)
  rw [updN_id, updN_id] at this
  exact this
theorem rS_sz (h : rS f w nx rz cs st) (hk : k < 3) : gSz (f (13 + k)) = rz k := by
  obtain ⟨c1, c2, c3, c4, c5, _⟩ := h.2 k hk
  rw [c1]
  exact gPw_sz c2 (by omega) (gcs_12 c3 c4) c5
theorem rS_ne (h : rS f w nx rz cs st) (hk : k < 3) : gNx (f (13 + k)) = nx k := by
  obtain ⟨c1, c2, c3, c4, c5, _⟩ := h.2 k hk
  rw [c1]
  exact gPw_nx c2 (by omega) (gcs_12 c3 c4) c5
theorem rS_cl (h : rS f w nx rz cs st) (hk : k < 3) (hi : i < 6) : w (((16 + (13 * k)) + 1) + (2 * i)) = nI (gCl (f (13 + k)) i) := by
  obtain ⟨c1, c2, c3, c4, c5, _, _, _, _, c10, _⟩ := h.2 k hk
  rw [c1, gPw_cl hi c2 (by omega) (gcs_12 c3 c4) c5]
  exact (c10 i hi).2
theorem rS_sn (h : rS f w nx rz cs st) (hk : k < 3) (hx : x < 4) : ∀ i, i ≤ 6 → gSn f k x i = rLd w k x i
  | 0, _ => h.1 x hx
  | i + 1, hi => by
    have e1 := rS_cl h hk (show i < 6 by omega)
    have e2 := ((h.2 k hk).2.2.2.2.2.2.2.2.2.1 i (by omega)).1
    have hcl := gCl_lt (f (13 + k)) i
    show (if gCl (f (13 + k)) i = x then f ((16 + (k * 6)) + i) else gSn f k x i) = (if w (((16 + (13 * k)) + 1) + (2 * i)) = nI x then w (((16 + (13 * k)) + 2) + (2 * i)) else rLd w k x i)
    rw [e1, e2, rS_sn h hk hx i (by omega)]
    by_cases q : gCl (f (13 + k)) i = x
    · rw [if_pos q, if_pos (congrArg nI q)]
    · rw [if_neg q, if_neg (fun q2 => q ((nI_eq (by omega) (by omega)).mp q2))]
theorem rS_vl (h : rS f w nx rz cs st) (hk : k < 3) (hv : pf n = (-1) ∨ ∃ r, r < 3 ∧ pf n = nI r) : gVl pf (gF1 f k) n k = rTk w k (pf n) (pf (n + 1)) := by
  unfold gVl rTk
  rcases hv with e | ⟨r, hr, e⟩
  · rw [if_pos e, if_pos (by rw [e]; decide)]
  · rw [e, if_neg (by intro q; have := nI_pos (n := r) (by omega); exact this (by rw [q]; decide)), if_neg (nI_pos (by omega)), nI_clamp (by omega)]
    unfold gF1
    rw [pk_un (by omega)]
    exact (h.2 k hk).2.2.2.2.2.2.2.2.1 r hr
theorem rS_g9 (h : rS f w nx rz cs st) : gW9 w nx rz := by
  intro k hk
  obtain ⟨_, c2, c3, _, _, c6, c7, _, _, c10, _⟩ := h.2 k hk
  exact ⟨c6, c7, by omega, c3, fun i hi => ⟨_, Nat.mod_lt _ (by decide), (c10 i (by omega)).2⟩⟩
end RST
/-- of the mode of the class: where stores wait, where what was stored is kept -/
def rM (m8 : Int32) (nc : Nat) (rz st : Nat → Nat) : Prop := (¬ m8 = 1 → ∀ k, k < 3 → rz k = 0) ∧ (¬ m8 = 2 → ∀ k, k < 3 → st k = 0) ∧ ∀ k, nc ≤ k → k < 3 → rz k = 0
def rR (m8 : Int32) (nc : Nat) (f w : Nat → Int32) : Prop := ∃ nx rz cs st : Nat → Nat, rS f w nx rz cs st ∧ rM m8 nc rz st
section RRR
variable {f w w1 pf : Nat → Int32} {k r x y i n nc j : Nat} {z m8 mode kp : Int32} {nx rz cs st nx' rz' : Nat → Nat}
theorem rM_st (h : rM m8 nc rz st) {k : Nat} : rM m8 nc rz (updN st k 0) := by
  refine ⟨h.1, fun q j hj => ?_, h.2.2⟩
  by_cases e : j = k
  · subst e
    exact updN_s
  · rw [updN_n e]
    exact h.2.1 q j hj
theorem rM_le (h : rM m8 nc rz st) (hr : ∀ k, k < 3 → rz' k ≤ rz k) : rM m8 nc rz' st := ⟨fun q k hk => by have := h.1 q k hk; have := hr k hk; omega, h.2.1, fun k h1 h2 => by have := h.2.2 k h1 h2; have := hr k h2; omega⟩
theorem rM_pr (h : rM m8 nc rz st) (hm : m8 = 1) (hk : k < nc) : rM m8 nc (updN rz k y) st := ⟨fun q => absurd hm q, h.2.1, fun j h1 h2 => by rw [updN_n (by omega)]; exact h.2.2 j h1 h2⟩
theorem rM_tr (h : rM m8 nc rz st) (hm : m8 = 2) : rM m8 nc rz (updN st k y) := ⟨h.1, fun q => absurd hm q, h.2.2⟩
theorem rR_of (h : rR m8 nc f w) (hg : gW9 w nx rz) : ∃ cs st, rS f w nx rz cs st ∧ rM m8 nc rz st := by
  obtain ⟨nx', rz', cs, st, h1, h2⟩ := h
  have en : ∀ k, k < 3 → nx' k = nx k ∧ rz' k = rz k := by
    intro k hk
    obtain ⟨_, c2, c3, _, _, c6, c7, _⟩ := h1.2 k hk
    obtain ⟨g1, g2, g3, g4, _⟩ := hg k hk
    exact ⟨(nI_eq (by omega) (by omega)).mp (c6.symm.trans g1), (nI_eq (by omega) (by omega)).mp (c7.symm.trans g2)⟩
  refine ⟨cs, st, ⟨h1.1, fun k hk => ?_⟩, fun q k hk => ?_, h2.2.1, fun k q hk => ?_⟩
  · rw [← (en k hk).1, ← (en k hk).2]
    exact h1.2 k hk
  · rw [← (en k hk).2]
    exact h2.1 q k hk
  · rw [← (en k hk).2]
    exact h2.2.2 k q hk
theorem rR_0 {cf : Nat → Int32} (h0 : ∀ j, j < 58 → (j < 12 ∨ 16 ≤ j) → w j = 0) (h1 : ∀ c, c < 4 → w (12 + c) = cf c) : rR m8 nc (gS0 cf) w := by
  refine ⟨fun _ => 0, fun _ => 0, fun _ => 0, fun _ => 0, ⟨fun c hc => ?_, fun k hk => ?_⟩, fun _ _ _ => rfl, fun _ _ _ => rfl, fun _ _ _ => rfl⟩
  · rw [h1 c hc]
    unfold gS0
    rw [if_pos (by omega)]
    congr 1
    omega
  · have z8 : ∀ j, (j < 9 ∨ 13 ≤ j) → gS0 cf j = 0 := fun j hj => if_neg (by omega)
    refine ⟨(z8 _ (by omega)).trans rfl, show (0 : Nat) < 16 by decide, show (0 : Nat) ≤ 6 by decide, show (0 : Nat) < 4 ^ 0 by decide, show (0 : Nat) < 16 by decide, (h0 _ (by omega) (by omega)).trans rfl, (h0 _ (by omega) (by omega)).trans rfl, (h0 _ (by omega) (by omega)).trans rfl, fun r hr => ?_, fun i hi => ?_, fun i _ hi => z8 _ (by omega)⟩
    · rw [z8 _ (by omega), h0 _ (by omega) (by omega)]
    · show gS0 cf ((16 + (k * 6)) + i) = w (((16 + (13 * k)) + 2) + (2 * i)) ∧ w (((16 + (13 * k)) + 1) + (2 * i)) = nI (0 / 4 ^ i % 4)
      rw [z8 _ (by omega), h0 _ (by omega) (by omega), h0 _ (by omega) (by omega), Nat.zero_div]
      exact ⟨rfl, rfl⟩
theorem rR_ext (h : rR m8 nc f w) (he : ∀ j, j < 58 → w1 j = w j) : rR m8 nc f w1 := by
  obtain ⟨nx, rz, cs, st, h1, h2⟩ := h
  exact ⟨nx, rz, cs, st, ⟨fun c hc => (h1.1 c hc).trans (he _ (by omega)).symm, fun k hk => rC_ext (h1.2 k hk) (fun _ _ => rfl) (fun j hj => he j (by omega))⟩, h2⟩
end RRR
