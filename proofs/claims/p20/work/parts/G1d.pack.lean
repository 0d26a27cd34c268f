
/-! a CORE's word, put together; STATES of class and reference side by side -/
theorem gx_nI {x : Int32} {n : Nat} (h : x.toBitVec.toNat = n) : x = nI n := by
  apply Int32.toBitVec.inj
  apply BitVec.eq_of_toNat_eq
  rw [gN_tn, ← h]
  exact (Nat.mod_eq_of_lt x.toBitVec.isLt).symm
theorem nI_or {a b : Nat} (ha : a < 2 ^ 31) (hb : b < 2 ^ 31) : nI a ||| nI b = nI (a ||| b) := gx_nI (by
  have e1 : (nI a).toBitVec.toNat = a := pk_tn (by omega)
  have e2 : (nI b).toBitVec.toNat = b := pk_tn (by omega)
  rw [Int32.toBitVec_or, BitVec.toNat_or, e1, e2])
def gPw (a b c d : Nat) : Int32 := nI (a + 16 * b + 128 * c + 524288 * d)
theorem gm_a : ∀ d, d < 16 → (2 ^ 19 * d) &&& 4294443135 = 2 ^ 19 * d := by decide +kernel
theorem gm_b : ∀ c, c < 64 → (2 ^ 13 * c) &&& 4294443135 = 0 := by decide +kernel
theorem gm_c : ∀ c, c < 64 → (2 ^ 7 * c) &&& 4294443135 = 0 := by decide +kernel
theorem gm_d : ∀ c, c < 128 → c &&& 4294443135 = c := by decide +kernel
theorem gn_a : ∀ d, d < 16 → (2 ^ 19 * d) &&& 4287102975 = 0 := by decide +kernel
theorem gn_b : ∀ c, c < 64 → (2 ^ 13 * c) &&& 4287102975 = 2 ^ 13 * c := by decide +kernel
theorem gn_c : ∀ c, c < 64 → (2 ^ 7 * c) &&& 4287102975 = 2 ^ 7 * c := by decide +kernel
theorem gn_d : ∀ c, c < 128 → c &&& 4287102975 = c := by decide +kernel
theorem gt_a : ∀ d, d < 16 → ∀ x, x < 4 → (2 ^ 19 * d) ||| (1 * 2 ^ (19 + x)) = 2 ^ 19 * (d ||| 2 ^ x) := by decide +kernel
theorem gt_b : ∀ d, d < 16 → ∀ x, x < 4 → d ||| 2 ^ x < 16 := by decide +kernel
theorem gt_c : ∀ d, d < 16 → ∀ x, x < 4 → nI d ||| (1 <<< (nI x &&& 31)) = nI (d ||| 2 ^ x) := by decide +kernel
theorem gx_or3 {lo c d : Nat} (hl : lo < 128) (hc : c < 4096) : lo + 128 * c + 524288 * d = 2 ^ 19 * d ||| (2 ^ 13 * (c / 64) ||| (2 ^ 7 * (c % 64) ||| lo)) := by
  rw [← Nat.two_pow_add_eq_or_of_lt (show lo < 2 ^ 7 by omega) (c % 64), ← Nat.two_pow_add_eq_or_of_lt (show 2 ^ 7 * (c % 64) + lo < 2 ^ 13 by omega) (c / 64), ← Nat.two_pow_add_eq_or_of_lt (show 2 ^ 13 * (c / 64) + (2 ^ 7 * (c % 64) + lo) < 2 ^ 19 by omega) d]
  omega
section PKW
variable {a b c d : Nat}
theorem gPw_tn (ha : a < 16) (hb : b < 8) (hc : c < 4096) (hd : d < 16) : (gPw a b c d).toBitVec.toNat = a + 16 * b + 128 * c + 524288 * d := pk_tn (by omega)
theorem gPw_nx (ha : a < 16) (hb : b < 8) (hc : c < 4096) (hd : d < 16) : gNx (gPw a b c d) = a := by
  unfold gNx
  rw [gPw_tn ha hb hc hd]
  omega
theorem gPw_sz (ha : a < 16) (hb : b < 8) (hc : c < 4096) (hd : d < 16) : gSz (gPw a b c d) = b := by
  rw [gSz_lo]
  unfold gLo
  rw [gPw_tn ha hb hc hd]
  omega
theorem gPw_cl {i : Nat} (hi : i < 6) (ha : a < 16) (hb : b < 8) (hc : c < 4096) (hd : d < 16) : gCl (gPw a b c d) i = c / 4 ^ i % 4 := by
  unfold gCl gPw
  rw [pk_shrN (by omega) _ (7 + (2 * i)) (s_l _ (by omega)), pk_tn (Nat.lt_of_le_of_lt (Nat.div_le_self _ _) (by omega))]
  rcases (show i = 0 ∨ i = 1 ∨ i = 2 ∨ i = 3 ∨ i = 4 ∨ i = 5 by omega) with e | e | e | e | e | e <;> subst e
  · show (a + 16 * b + 128 * c + 524288 * d) / 2 ^ 7 % 4 = c / 4 ^ 0 % 4
    omega
  · show (a + 16 * b + 128 * c + 524288 * d) / 2 ^ 9 % 4 = c / 4 ^ 1 % 4
    omega
  · show (a + 16 * b + 128 * c + 524288 * d) / 2 ^ 11 % 4 = c / 4 ^ 2 % 4
    omega
  · show (a + 16 * b + 128 * c + 524288 * d) / 2 ^ 13 % 4 = c / 4 ^ 3 % 4
    omega
  · show (a + 16 * b + 128 * c + 524288 * d) / 2 ^ 15 % 4 = c / 4 ^ 4 % 4
    omega
  · show (a + 16 * b + 128 * c + 524288 * d) / 2 ^ 17 % 4 = c / 4 ^ 5 % 4
    omega
theorem gPw_add (y : Nat) : gPw a b c d + nI y = gPw (a + y) b c d := by
  unfold gPw
  rw [nI_add]
  congr 1
  omega
theorem gPw_p16 : gPw a b c d + 16 = gPw a (b + 1) c d := by
  unfold gPw
  rw [show (16 : Int32) = nI 16 from rfl, nI_add]
  congr 1
  omega
theorem gPw_m16 (h : 0 < b) : gPw a b c d - 16 = gPw a (b - 1) c d := by
  unfold gPw
  rw [show (16 : Int32) = nI 16 from rfl, pk_sub (by omega)]
  congr 1
  omega
theorem gPw_cc (ha : a < 16) (hb : b < 8) (hc : c < 4096) (hd : d < 16) : gPw a b c d &&& (-524161) = gPw a b 0 d := by
  show gPw a b c d &&& (-524161) = nI (a + 16 * b + 128 * 0 + 524288 * d)
  refine gx_nI ?_
  rw [Int32.toBitVec_and, BitVec.toNat_and, gPw_tn ha hb hc hd, show (-524161 : Int32).toBitVec.toNat = 4294443135 by decide +kernel, gx_or3 (lo := a + 16 * b) (by omega) hc, Nat.and_or_distrib_right, Nat.and_or_distrib_right, Nat.and_or_distrib_right, gm_a d hd, gm_b _ (by omega), gm_c _ (by omega), gm_d _ (by omega), Nat.zero_or, Nat.zero_or, ← Nat.two_pow_add_eq_or_of_lt (show a + 16 * b < 2 ^ 19 by omega) d]
  omega
theorem gPw_cs (ha : a < 16) (hb : b < 8) (hc : c < 4096) (hd : d < 16) : gPw a b c d &&& (-7864321) = gPw a b c 0 := by
  show gPw a b c d &&& (-7864321) = nI (a + 16 * b + 128 * c + 524288 * 0)
  refine gx_nI ?_
  rw [Int32.toBitVec_and, BitVec.toNat_and, gPw_tn ha hb hc hd, show (-7864321 : Int32).toBitVec.toNat = 4287102975 by decide +kernel, gx_or3 (lo := a + 16 * b) (by omega) hc, Nat.and_or_distrib_right, Nat.and_or_distrib_right, Nat.and_or_distrib_right, gn_a d hd, gn_b _ (by omega), gn_c _ (by omega), gn_d _ (by omega), Nat.zero_or, ← Nat.two_pow_add_eq_or_of_lt (show a + 16 * b < 2 ^ 7 by omega) (c % 64), ← Nat.two_pow_add_eq_or_of_lt (show 2 ^ 7 * (c % 64) + (a + 16 * b) < 2 ^ 13 by omega) (c / 64)]
  omega
theorem gPw_go (ha : a < 16) (hb : b < 8) (hc : c < 4096) (hd : d < 16) (h0 : 0 < b) : (((gPw a b c d) &&& (-524161)) ||| (((nI (((gPw a b c d) >>> ((7 : Int32) &&& 31)).toBitVec.toNat % 4096)) >>> ((2 : Int32) &&& 31)) <<< ((7 : Int32) &&& 31))) - 16 = gPw a (b - 1) (c / 4) d := by
  have e1 : ((gPw a b c d) >>> ((7 : Int32) &&& 31)).toBitVec.toNat % 4096 = c := by
    unfold gPw
    rw [pk_shrN (by omega) _ 7 (by decide +kernel), pk_tn (by omega)]
    omega
  have e2 : nI c >>> ((2 : Int32) &&& 31) = nI (c / 2 ^ 2) := pk_shrN (by omega) _ 2 (by decide +kernel)
  have e3 : nI (c / 2 ^ 2) <<< ((7 : Int32) &&& 31) = nI (c / 2 ^ 2 * 2 ^ 7) := pk_shlN _ 7 (by decide +kernel) (by omega)
  rw [e1, e2, e3, gPw_cc ha hb hc hd]
  have e4 : gPw a b 0 d ||| nI (c / 2 ^ 2 * 2 ^ 7) = gPw a b (c / 4) d := by
    show nI (a + 16 * b + 128 * 0 + 524288 * d) ||| nI (c / 2 ^ 2 * 2 ^ 7) = nI (a + 16 * b + 128 * (c / 4) + 524288 * d)
    rw [nI_or (by omega) (by omega)]
    congr 1
    rw [show a + 16 * b + 128 * 0 + 524288 * d = 2 ^ 19 * d + (a + 16 * b) by omega, show c / 2 ^ 2 * 2 ^ 7 = 2 ^ 7 * (c / 4) by omega, Nat.two_pow_add_eq_or_of_lt (show a + 16 * b < 2 ^ 19 by omega) d, Nat.or_assoc, Nat.or_comm (a + 16 * b), ← Nat.two_pow_add_eq_or_of_lt (show a + 16 * b < 2 ^ 7 by omega) (c / 4), ← Nat.two_pow_add_eq_or_of_lt (show 2 ^ 7 * (c / 4) + (a + 16 * b) < 2 ^ 19 by omega) d]
    omega
  rw [e4]
  exact gPw_m16 h0
theorem gx_p4 {r : Nat} (hr : r < 6) : 2 ^ (7 + (2 * r)) = 128 * 4 ^ r ∧ 4 ^ r ≤ 1024 := by
  rcases (show r = 0 ∨ r = 1 ∨ r = 2 ∨ r = 3 ∨ r = 4 ∨ r = 5 by omega) with e | e | e | e | e | e <;> subst e <;> decide
theorem gPw_put {r x : Nat} (ha : a < 16) (hr : r < 6) (hc : c < 4 ^ r) (hx : x < 4) : gPw a (r + 1) c 0 ||| ((nI x) <<< (((nI (7 + (2 * r))) : Int32) &&& 31)) = gPw a (r + 1) (c + x * 4 ^ r) 0 := by
  obtain ⟨hk, h4⟩ := gx_p4 hr
  have hxp : x * 4 ^ r ≤ 3 * 1024 := Nat.mul_le_mul (by omega) h4
  have hW : a + 16 * (r + 1) + 128 * c + 524288 * 0 < 2 ^ (7 + (2 * r)) := by
    rw [hk]
    omega
  have e0 : x * 2 ^ (7 + (2 * r)) = 128 * (x * 4 ^ r) := by
    rw [hk, ← Nat.mul_assoc, Nat.mul_comm x 128, Nat.mul_assoc]
  have e1 : (nI x) <<< (((nI (7 + (2 * r))) : Int32) &&& 31) = nI (x * 2 ^ (7 + (2 * r))) := pk_shlN _ (7 + (2 * r)) (s_l _ (by omega)) (by rw [e0]; omega)
  rw [e1]
  show nI (a + 16 * (r + 1) + 128 * c + 524288 * 0) ||| nI (x * 2 ^ (7 + (2 * r))) = nI (a + 16 * (r + 1) + 128 * (c + x * 4 ^ r) + 524288 * 0)
  rw [nI_or (by omega) (by rw [e0]; omega)]
  congr 1
  rw [Nat.or_comm, Nat.mul_comm x, ← Nat.two_pow_add_eq_or_of_lt hW x, Nat.mul_comm _ x, e0]
  omega
theorem gPw_tr {x : Nat} (ha : a < 16) (hb : b < 8) (hc : c < 4096) (hd : d < 16) (hx : x < 4) : gPw a b c d ||| (1 <<< (((nI (19 + x)) : Int32) &&& 31)) = gPw a b c (d ||| 2 ^ x) := by
  have hp : 2 ^ (19 + x) ≤ 2 ^ 22 := Nat.pow_le_pow_right (by decide) (by omega)
  have e1 : (1 : Int32) <<< (((nI (19 + x)) : Int32) &&& 31) = nI (1 * 2 ^ (19 + x)) := pk_shlN (n := 1) _ (19 + x) (s_l _ (by omega)) (by omega)
  rw [e1]
  show nI (a + 16 * b + 128 * c + 524288 * d) ||| nI (1 * 2 ^ (19 + x)) = nI (a + 16 * b + 128 * c + 524288 * (d ||| 2 ^ x))
  rw [nI_or (by omega) (by omega)]
  congr 1
  rw [show a + 16 * b + 128 * c + 524288 * d = 2 ^ 19 * d + (a + 16 * b + 128 * c) by omega, Nat.two_pow_add_eq_or_of_lt (show a + 16 * b + 128 * c < 2 ^ 19 by omega) d, Nat.or_assoc, Nat.or_comm (a + 16 * b + 128 * c), ← Nat.or_assoc, gt_a d hd x hx, ← Nat.two_pow_add_eq_or_of_lt (show a + 16 * b + 128 * c < 2 ^ 19 by omega) (d ||| 2 ^ x)]
  omega
end PKW
theorem gcs_eq {c r x : Nat} (hc : c < 4 ^ r) (hx : x < 4) : (c + x * 4 ^ r) / 4 ^ r % 4 = x := by
  rw [Nat.add_mul_div_right _ _ (by omega), Nat.div_eq_of_lt hc, Nat.zero_add]
  exact Nat.mod_eq_of_lt hx
theorem gcs_ne {c r x i : Nat} (hr : r < 6) (hi : i < 6) (hc : c < 4 ^ r) (hx : x < 4) (h : i ≠ r) : (c + x * 4 ^ r) / 4 ^ i % 4 = c / 4 ^ i % 4 := by
  rcases (show r = 0 ∨ r = 1 ∨ r = 2 ∨ r = 3 ∨ r = 4 ∨ r = 5 by omega) with e | e | e | e | e | e <;> subst e <;> rcases (show i = 0 ∨ i = 1 ∨ i = 2 ∨ i = 3 ∨ i = 4 ∨ i = 5 by omega) with e | e | e | e | e | e <;> subst e <;> omega
theorem gcs_lt {c r x : Nat} (hc : c < 4 ^ r) (hx : x < 4) : c + x * 4 ^ r < 4 ^ (r + 1) := by
  rw [Nat.pow_succ]
  have : x * 4 ^ r ≤ 3 * 4 ^ r := Nat.mul_le_mul_right _ (by omega)
  omega
theorem gcs_dv {c i : Nat} : c / 4 / 4 ^ i = c / 4 ^ (i + 1) := by
  rw [Nat.div_div_eq_div_mul, Nat.pow_succ, Nat.mul_comm]
theorem gcs_12 {c r : Nat} (hr : r ≤ 6) (hc : c < 4 ^ r) : c < 4096 := Nat.lt_of_lt_of_le hc (Nat.le_trans (Nat.pow_le_pow_right (by decide) hr) (by decide))
theorem gcs_0 {c r i : Nat} (hc : c < 4 ^ r) (hi : r ≤ i) : c / 4 ^ i % 4 = 0 := by
  rw [Nat.div_eq_of_lt (Nat.lt_of_lt_of_le hc (Nat.pow_le_pow_right (by decide) hi))]
/-- CORE k of both: next a, b stores wait at the CELLS c, stored d -/
def rC (f w : Nat → Int32) (k a b c d : Nat) : Prop := f (13 + k) = gPw a b c d ∧ a < 16 ∧ b ≤ 6 ∧ c < 4 ^ b ∧ d < 16 ∧ w k = nI a ∧ w (16 + (13 * k)) = nI b ∧ w (55 + k) = nI d ∧ (∀ r, r < 3 → f ((k * 3) + r) = w ((3 + (3 * k)) + r)) ∧ (∀ i, i < 6 → f ((16 + (k * 6)) + i) = w (((16 + (13 * k)) + 2) + (2 * i)) ∧ w (((16 + (13 * k)) + 1) + (2 * i)) = nI (c / 4 ^ i % 4)) ∧ (∀ i, b ≤ i → i < 6 → f ((16 + (k * 6)) + i) = 0)
def rS (f w : Nat → Int32) (nx rz cs st : Nat → Nat) : Prop := (∀ c, c < 4 → f (9 + c) = w (12 + c)) ∧ ∀ k, k < 3 → rC f w k (nx k) (rz k) (cs k) (st k)
section RSS
variable {f g w v : Nat → Int32} {k k0 a b c d r x y : Nat} {z : Int32} {nx rz cs st : Nat → Nat}
theorem rC_ext (h : rC f w k a b c d) (hf : ∀ j, (j = 13 + k ∨ (k * 3 ≤ j ∧ j < k * 3 + 3) ∨ (16 + k * 6 ≤ j ∧ j < 22 + k * 6)) → g j = f j) (hw : ∀ j, (j = k ∨ j = 55 + k ∨ (3 + 3 * k ≤ j ∧ j < 6 + 3 * k) ∨ (16 + 13 * k ≤ j ∧ j < 29 + 13 * k)) → v j = w j) : rC g v k a b c d := by
  obtain ⟨h1, h2, h3, h4, h5, h6, h7, h8, h9, h10, h11⟩ := h
  refine ⟨(hf _ (by omega)).trans h1, h2, h3, h4, h5, (hw _ (by omega)).trans h6, (hw _ (by omega)).trans h7, (hw _ (by omega)).trans h8, fun r hr => ?_, fun i hi => ?_, fun i h1 h2 => ?_⟩
  · rw [hf _ (by omega), hw _ (by omega)]
    exact h9 r hr
  · rw [hf _ (by omega), hw _ (by omega), hw _ (by omega)]
    exact h10 i hi
  · rw [hf _ (by omega)]
    exact h11 i h1 h2
theorem rC_nx (hk : k < 3) (h : rC f w k a b c d) (hy : a + y < 16) : rC (upd f (13 + k) (f (13 + k) + nI y)) (upd w k (nI (a + y))) k (a + y) b c d := by
  obtain ⟨h1, h2, h3, h4, h5, h6, h7, h8, h9, h10, h11⟩ := h
  refine ⟨by rw [pk_us, h1, gPw_add], hy, h3, h4, h5, pk_us, (pk_un (by omega)).trans h7, (pk_un (by omega)).trans h8, fun r hr => ?_, fun i hi => ?_, fun i h1 h2 => ?_⟩
  · rw [pk_un (by omega), pk_un (by omega)]
    exact h9 r hr
  · rw [pk_un (by omega), pk_un (by omega), pk_un (by omega)]
    exact h10 i hi
  · rw [pk_un (by omega)]
    exact h11 i h1 h2
theorem rC_rg (hk : k < 3) (hr : r < 3) (h : rC f w k a b c d) : rC (upd f ((k * 3) + r) z) (upd w ((3 + (3 * k)) + r) z) k a b c d := by
  obtain ⟨h1, h2, h3, h4, h5, h6, h7, h8, h9, h10, h11⟩ := h
  refine ⟨(pk_un (by omega)).trans h1, h2, h3, h4, h5, (pk_un (by omega)).trans h6, (pk_un (by omega)).trans h7, (pk_un (by omega)).trans h8, fun q hq => ?_, fun i hi => ?_, fun i h1 h2 => ?_⟩
  · by_cases e : q = r
    · subst e
      rw [pk_us, pk_us]
    · rw [pk_un (by omega), pk_un (by omega)]
      exact h9 q hq
  · rw [pk_un (by omega), pk_un (by omega), pk_un (by omega)]
    exact h10 i hi
  · rw [pk_un (by omega)]
    exact h11 i h1 h2
theorem rC_fs (hk : k < 3) (h : rC f w k a b c d) : rC (gFs f k) (upd w (55 + k) 0) k a b c 0 := by
  obtain ⟨h1, h2, h3, h4, h5, h6, h7, h8, h9, h10, h11⟩ := h
  unfold gFs
  refine ⟨by rw [pk_us, h1, gPw_cs h2 (by omega) (gcs_12 h3 h4) h5], h2, h3, h4, by decide, (pk_un (by omega)).trans h6, (pk_un (by omega)).trans h7, pk_us, fun q hq => ?_, fun i hi => ?_, fun i h1 h2 => ?_⟩
  · rw [pk_un (by omega), pk_un (by omega)]
    exact h9 q hq
  · rw [pk_un (by omega), pk_un (by omega), pk_un (by omega)]
    exact h10 i hi
  · rw [pk_un (by omega)]
    exact h11 i h1 h2
theorem rC_tr (hk : k < 3) (hx : x < 4) (h : rC f w k a b c d) (hz : z = nI (d ||| 2 ^ x)) : rC (upd f (13 + k) (f (13 + k) ||| (1 <<< (((nI (19 + x)) : Int32) &&& 31)))) (upd w (55 + k) z) k a b c (d ||| 2 ^ x) := by
  obtain ⟨h1, h2, h3, h4, h5, h6, h7, h8, h9, h10, h11⟩ := h
  refine ⟨by rw [pk_us, h1, gPw_tr h2 (by omega) (gcs_12 h3 h4) h5 hx], h2, h3, h4, gt_b d h5 x hx, (pk_un (by omega)).trans h6, (pk_un (by omega)).trans h7, by rw [pk_us]; exact hz, fun q hq => ?_, fun i hi => ?_, fun i h1 h2 => ?_⟩
  · rw [pk_un (by omega), pk_un (by omega)]
    exact h9 q hq
  · rw [pk_un (by omega), pk_un (by omega), pk_un (by omega)]
    exact h10 i hi
  · rw [pk_un (by omega)]
    exact h11 i h1 h2
theorem rC_pr (hk : k < 3) (hx : x < 4) (h : rC f w k a b c 0) (hb : b < 6) : rC (gPr f k x z) (upd (upd (upd w (((16 + (13 * k)) + 1) + (2 * b)) (nI x)) (((16 + (13 * k)) + 2) + (2 * b)) z) (16 + (13 * k)) (nI (b + 1))) k a (b + 1) (c + x * 4 ^ b) 0 := by
  obtain ⟨h1, h2, h3, h4, h5, h6, h7, h8, h9, h10, h11⟩ := h
  have hs : gSz (f (13 + k)) = b := by rw [h1]; exact gPw_sz h2 (by omega) (gcs_12 h3 h4) h5
  unfold gPr
  rw [hs]
  refine ⟨?_, h2, hb, gcs_lt h4 hx, h5, ?_, pk_us, ?_, fun q hq => ?_, fun i hi => ?_, fun i q1 q2 => ?_⟩
  · rw [pk_us, pk_us, pk_un (by omega), h1, gPw_p16]
    exact gPw_put h2 hb h4 hx
  · rw [pk_un (by omega), pk_un (by omega), pk_un (by omega)]
    exact h6
  · rw [pk_un (by omega), pk_un (by omega), pk_un (by omega)]
    exact h8
  · rw [pk_un (by omega), pk_un (by omega), pk_un (by omega), pk_un (by omega), pk_un (by omega), pk_un (by omega)]
    exact h9 q hq
  · by_cases e : i = b
    · subst e
      refine ⟨?_, ?_⟩
      · rw [pk_un (by omega), pk_un (by omega), pk_us, pk_un (by omega), pk_us]
      · rw [pk_un (by omega), pk_un (by omega), pk_us, gcs_eq h4 hx]
    · refine ⟨?_, ?_⟩
      · rw [pk_un (by omega), pk_un (by omega), pk_un (by omega), pk_un (by omega), pk_un (by omega), pk_un (by omega)]
        exact (h10 i hi).1
      · rw [pk_un (by omega), pk_un (by omega), pk_un (by omega), gcs_ne hb hi h4 hx e]
        exact (h10 i hi).2
  · rw [pk_un (by omega), pk_un (by omega), pk_un (by omega)]
    exact h11 i (by omega) q2
theorem rC_lg {w9 : Nat → Int32} {p q : Nat} (hk : k < 3) (h : rC f w k a b c d) (hb : 0 < b) (hg : gGo w w9 k (b - 1) (2 * (b - 1))) (hp : p = 17 + 13 * k + 2 * (b - 1)) (hq : q = 18 + 13 * k + 2 * (b - 1)) : rC (gLg f k) (upd (upd w9 p 0) q 0) k a (b - 1) (c / 4) d := by
  obtain ⟨h1, h2, h3, h4, h5, h6, h7, h8, h9, h10, h11⟩ := h
  obtain ⟨g1, g2, g3, g4⟩ := hg
  have hcl : gCl (f (13 + k)) 0 < 4 := gCl_lt _ _
  obtain ⟨j, rfl⟩ : ∃ j, b = j + 1 := ⟨b - 1, by omega⟩
  have hc4 : c / 4 < 4 ^ (j + 1 - 1) := by
    have h4' := h4
    rw [Nat.pow_succ] at h4'
    rw [Nat.add_sub_cancel]
    omega
  unfold gLg
  refine ⟨?_, h2, by omega, hc4, h5, ?_, ?_, ?_, fun t ht => ?_, fun i hi => ?_, fun i q1 q2 => ?_⟩
  · rw [pk_us, h1]
    exact gPw_go h2 (by omega) (gcs_12 h3 h4) h5 hb
  · rw [pk_un (by omega), pk_un (by omega), g1 _ (by omega) (by omega)]
    exact h6
  · rw [pk_un (by omega), pk_un (by omega)]
    exact g2
  · rw [pk_un (by omega), pk_un (by omega), g1 _ (by omega) (by omega)]
    exact h8
  · rw [pk_un (by omega), pk_un (by omega), pk_cpy_out (by omega), pk_un (by omega), pk_un (by omega), pk_un (by omega), g1 _ (by omega) (by omega)]
    exact h9 t ht
  · have hrow : ∀ t, t < 5 → upd (upd (va_cpy (upd f (9 + gCl (f (13 + k)) 0) (f (16 + (k * 6)))) (upd f (9 + gCl (f (13 + k)) 0) (f (16 + (k * 6)))) ((16 + (k * 6)) + 1) (16 + (k * 6)) 5) (((16 + (k * 6)) + 6) - 1) 0) (13 + k) ((((f (13 + k)) &&& (-524161)) ||| (((nI (((f (13 + k)) >>> ((7 : Int32) &&& 31)).toBitVec.toNat % 4096)) >>> ((2 : Int32) &&& 31)) <<< ((7 : Int32) &&& 31))) - 16) ((16 + (k * 6)) + t) = f ((16 + (k * 6)) + (t + 1)) := by
      intro t ht
      rw [pk_un (by omega), pk_un (by omega), pk_cpy_in (by omega) (by omega), pk_un (by omega)]
      congr 1
      omega
    by_cases e : i < j
    · obtain ⟨r1, r2⟩ := h10 (i + 1) (by omega)
      refine ⟨?_, ?_⟩
      · rw [hrow i (by omega), r1, pk_un (by omega), pk_un (by omega), show ((16 + (13 * k)) + 2) + (2 * i) = 17 + 13 * k + (2 * i + 1) by omega, g3 (2 * i + 1) (by omega)]
        congr 1
        omega
      · rw [pk_un (by omega), pk_un (by omega), show ((16 + (13 * k)) + 1) + (2 * i) = 17 + 13 * k + 2 * i by omega, g3 (2 * i) (by omega), gcs_dv, ← r2]
        congr 1
        omega
    · have z0 : upd (upd w9 p 0) q 0 (((16 + (13 * k)) + 2) + (2 * i)) = 0 := by
        by_cases e2 : i = j
        · rw [show ((16 + (13 * k)) + 2) + (2 * i) = q by omega, pk_us]
        · rw [pk_un (by omega), pk_un (by omega), show ((16 + (13 * k)) + 2) + (2 * i) = 17 + 13 * k + (2 * i + 1) by omega, g4 (2 * i + 1) (by omega) (by omega), show 17 + 13 * k + (2 * i + 1) = ((16 + (13 * k)) + 2) + (2 * i) by omega, ← (h10 i hi).1]
          exact h11 i (by omega) hi
      have z1 : upd (upd w9 p 0) q 0 (((16 + (13 * k)) + 1) + (2 * i)) = 0 := by
        by_cases e2 : i = j
        · rw [pk_un (by omega), show ((16 + (13 * k)) + 1) + (2 * i) = p by omega, pk_us]
        · rw [pk_un (by omega), pk_un (by omega), show ((16 + (13 * k)) + 1) + (2 * i) = 17 + 13 * k + 2 * i by omega, g4 (2 * i) (by omega) (by omega), show 17 + 13 * k + 2 * i = ((16 + (13 * k)) + 1) + (2 * i) by omega, (h10 i hi).2, gcs_0 h4 (by omega)]
          exact nI_0
      rw [z0, z1, gcs_0 hc4 (by omega)]
      refine ⟨?_, rfl⟩
      by_cases e5 : i = 5
      · subst e5
        rw [pk_un (by omega), show ((16 + (k * 6)) + 6) - 1 = (16 + (k * 6)) + 5 by omega, pk_us]
      · rw [hrow i (by omega)]
        exact h11 (i + 1) (by omega) (by omega)
  · by_cases e5 : i = 5
    · subst e5
      rw [pk_un (by omega), show ((16 + (k * 6)) + 6) - 1 = (16 + (k * 6)) + 5 by omega, pk_us]
    · rw [pk_un (by omega), pk_un (by omega), pk_cpy_in (by omega) (by omega), pk_un (by omega), show (16 + (k * 6)) + 1 + ((16 + (k * 6)) + i - (16 + (k * 6))) = (16 + (k * 6)) + (i + 1) by omega]
      exact h11 (i + 1) (by omega) (by omega)
end RSS
