
/-! STATES that agree up to a width; steps keep it -/
def gAg (wd : Nat) (f g : Nat → Int32) : Prop := ∀ j, j < wd → f j = g j
section AGG
variable {wd k x r i n q : Nat} {f g f' g' pf : Nat → Int32} {v u m8 : Int32}
theorem gAg_u (h : gAg wd f g) (e : v = u) : gAg wd (upd f i v) (upd g i u) := by
  subst e
  intro j hj
  by_cases e : j = i
  · subst e
    rw [pk_us, pk_us]
  · rw [pk_un e, pk_un e]
    exact h j hj
theorem gAg_c {sp dp : Nat} (h : gAg wd f g) (h' : gAg wd f' g') (hs : sp + n ≤ wd) : gAg wd (va_cpy f f' sp dp n) (va_cpy g g' sp dp n) := by
  intro j hj
  by_cases e : dp ≤ j ∧ j < dp + n
  · rw [pk_cpy_in e.1 e.2, pk_cpy_in e.1 e.2]
    exact h _ (by omega)
  · rw [pk_cpy_out (by omega), pk_cpy_out (by omega)]
    exact h' j hj
theorem gAg_f1 (h : gAg wd f g) (hw : 16 ≤ wd) (hk : k < 3) : gAg wd (gF1 f k) (gF1 g k) := gAg_u h (by rw [h (13 + k) (by omega)])
theorem gAg_fs (h : gAg wd f g) (hw : 16 ≤ wd) (hk : k < 3) : gAg wd (gFs f k) (gFs g k) := gAg_u h (by rw [h (13 + k) (by omega)])
theorem gAg_lg (h : gAg wd f g) (hw : 22 + k * 6 ≤ wd) (hk : k < 3) : gAg wd (gLg f k) (gLg g k) := by
  have e1 := h (13 + k) (by omega)
  have e2 := h (16 + (k * 6)) (by omega)
  have h1 : gAg wd (upd f (9 + gCl (f (13 + k)) 0) (f (16 + (k * 6)))) (upd g (9 + gCl (g (13 + k)) 0) (g (16 + (k * 6)))) := by
    rw [e1]
    exact gAg_u h e2
  unfold gLg
  exact gAg_u (gAg_u (gAg_c h1 h1 (by omega)) rfl) (by rw [e1])
theorem gAg_sn (h : gAg wd f g) (hw : 16 ≤ wd) (hk : k < 3) (hx : x < 4) : ∀ i, (i = 0 ∨ (i ≤ 6 ∧ 22 + k * 6 ≤ wd)) → gSn f k x i = gSn g k x i
  | 0, _ => h (9 + x) (by omega)
  | i + 1, hi => by
    show (if gCl (f (13 + k)) i = x then f ((16 + (k * 6)) + i) else gSn f k x i) = (if gCl (g (13 + k)) i = x then g ((16 + (k * 6)) + i) else gSn g k x i)
    rw [h (13 + k) (by omega), h ((16 + (k * 6)) + i) (by omega), gAg_sn h hw hk hx i (by omega)]
theorem gAg_vl (h : gAg wd f g) (hw : 16 ≤ wd) (hk : k < 3) (hv : pf n = (-1) ∨ ∃ r, r < 3 ∧ pf n = nI r) : gVl pf f n k = gVl pf g n k := by
  unfold gVl
  rcases hv with e | ⟨r, hr, e⟩
  · rw [if_pos e, if_pos e]
  · have ne : ¬ nI r = (-1) := fun q => nI_pos (n := r) (by omega) (by rw [q]; decide)
    rw [e, if_neg ne, if_neg ne, nI_clamp (by omega), h ((k * 3) + r) (by omega)]
theorem gAg_pm (h : gAg wd f g) (hw : 16 ≤ wd) (hk : k < 3) (e : v = u) : gAg wd (gPm f k x v m8) (gPm g k x u m8) := by
  subst e
  have h1 : gAg wd (upd f (9 + x) v) (upd g (9 + x) v) := gAg_u h rfl
  unfold gPm
  by_cases c : m8 = 2
  · rw [if_pos c, if_pos c]
    exact gAg_u h1 (by rw [h1 (13 + k) (by omega)])
  · rw [if_neg c, if_neg c]
    exact h1
theorem gAg_pr (h : gAg wd f g) (hw : 16 ≤ wd) (hk : k < 3) (e : v = u) : gAg wd (gPr f k x v) (gPr g k x u) := by
  subst e
  have e1 := h (13 + k) (by omega)
  unfold gPr
  rw [e1]
  have h1 : gAg wd (upd f ((16 + (k * 6)) + (gSz (g (13 + k)))) v) (upd g ((16 + (k * 6)) + (gSz (g (13 + k)))) v) := gAg_u h rfl
  have h2 := gAg_u (i := 13 + k) h1 (show (upd f ((16 + (k * 6)) + (gSz (g (13 + k)))) v) (13 + k) + 16 = (upd g ((16 + (k * 6)) + (gSz (g (13 + k)))) v) (13 + k) + 16 by rw [h1 (13 + k) (by omega)])
  exact gAg_u h2 (by rw [h2 (13 + k) (by omega)])
theorem gAg_pt (h : gAg wd f g) (hw : 16 ≤ wd) (hk : k < 3) (e : v = u) : gAg wd (gPt f k x v m8) (gPt g k x u m8) := by
  unfold gPt
  rw [h (13 + k) (by omega)]
  by_cases c : m8 = 1
  · rw [if_pos c, if_pos c]
    by_cases c6 : 6 ≤ gSz (g (13 + k))
    · rw [if_pos c6, if_pos c6]
      exact gAg_pm h hw hk e
    · rw [if_neg c6, if_neg c6]
      exact gAg_pr h hw hk e
  · rw [if_neg c, if_neg c]
    exact gAg_pm h hw hk e
theorem gAg_lk {c r : Nat} {z a b a' b' : Int32} (h : gAg wd f g) (hc : c < wd) (hr : r < wd) (ea : a = a') (eb : b = b') : gAg wd (gLk f c r z a b) (gLk g c r z a' b') := by
  subst ea; subst eb
  unfold gLk
  rw [h c hc, h r hr]
  by_cases c5 : z = 5
  · rw [if_pos c5, if_pos c5]
    exact gAg_u (gAg_u h rfl) rfl
  · rw [if_neg c5, if_neg c5]
    by_cases c6 : z = 6
    · rw [if_pos c6, if_pos c6]
      exact gAg_u (gAg_u h rfl) rfl
    · rw [if_neg c6, if_neg c6]
      by_cases c7 : g c = a
      · rw [if_pos c7, if_pos c7]
        exact gAg_u (gAg_u h rfl) rfl
      · rw [if_neg c7, if_neg c7]
        exact gAg_u h rfl
theorem gAg_mk (h : gAg wd f g) (hw : 16 ≤ wd) (hk : k < 3) (hI : gIns pf n 7) (hz : gSz (f (13 + k)) = 0 ∨ (gSz (f (13 + k)) ≤ 6 ∧ 22 + k * 6 ≤ wd)) (hn : gNx (f (13 + k)) < 15) : gAg wd (gMK pf f k n m8) (gMK pf g k n m8) := by
  have h1 := gAg_f1 h hw hk
  have e13 := h1 (13 + k) (by omega)
  obtain ⟨q, hq8, hq, hgr, hgc, h3, h5, hgs⟩ := hI
  have v3 := gAg_vl h1 hw hk h3
  have v5 := gAg_vl h1 hw hk h5
  rcases (show q = 0 ∨ q = 1 ∨ q = 2 ∨ q = 3 ∨ q = 4 ∨ (q = 5 ∨ q = 6 ∨ q = 7) ∨ q = 8 by omega) with e | e | e | e | e | e | e
  · subst e
    obtain ⟨r, hr, er⟩ := hgr (by decide) (by decide)
    obtain ⟨x, hx, ex⟩ := hgc (by decide) (by decide) (by decide) (by decide)
    rw [gMK_0 hq er ex hr hx, gMK_0 hq er ex hr hx]
    have es : gSz (gF1 f k (13 + k)) = gSz (f (13 + k)) := by
      unfold gF1
      rw [pk_us, gSz_lo, gSz_lo, show (1 : Int32) = nI 1 from rfl, gLo_add]
      rw [gNx_lo] at hn
      have := gLo_lt (f (13 + k))
      omega
    have hz' : gSz (gF1 f k (13 + k)) = 0 ∨ (gSz (gF1 f k (13 + k)) ≤ 6 ∧ 22 + k * 6 ≤ wd) := by
      rw [es]
      exact hz
    refine gAg_u h1 ?_
    rw [← e13]
    exact gAg_sn h1 hw hk hx _ hz'
  · subst e
    obtain ⟨x, hx, ex⟩ := hgc (by decide) (by decide) (by decide) (by decide)
    rw [gMK_1 hq ex hx, gMK_1 hq ex hx]
    exact gAg_pt h1 hw hk v3
  · subst e
    obtain ⟨r, hr, er⟩ := hgr (by decide) (by decide)
    rw [gMK_2 hq er hr, gMK_2 hq er hr]
    exact gAg_u h1 v3
  · subst e
    obtain ⟨r, hr, er⟩ := hgr (by decide) (by decide)
    rw [gMK_3 hq er hr, gMK_3 hq er hr]
    exact gAg_u h1 (by rw [v3, h1 ((k * 3) + r) (by omega)])
  · subst e
    rw [gMK_4 hq, gMK_4 hq]
    exact gAg_fs h1 hw hk
  · obtain ⟨r, hr, er⟩ := hgr (by omega) (by omega)
    obtain ⟨x, hx, ex⟩ := hgc (by omega) (by omega) (by omega) (by omega)
    rw [gMK_l hq e er ex hr hx, gMK_l hq e er ex hr hx]
    exact gAg_fs (gAg_lk h1 (by omega) (by omega) v3 v5) hw hk
  · subst e
    obtain ⟨r, hr, er⟩ := hgr (by decide) (by decide)
    obtain ⟨y, hy, ey⟩ := hgs rfl
    rw [gMK_8 hq er ey hr hy, gMK_8 hq er ey hr hy]
    exact gAg_u h1 (by rw [e13, h1 ((k * 3) + r) (by omega)])
end AGG
