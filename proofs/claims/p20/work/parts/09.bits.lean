/-! a CORE's word: its lowest seven bits (which INS is next, how many stores wait) -/
def gLo (x : Int32) : Nat := x.toBitVec.toNat % 128
theorem gLo_lt (x : Int32) : gLo x < 128 := Nat.mod_lt _ (by decide)
theorem gNx_lo (x : Int32) : gNx x = gLo x % 16 := by unfold gNx gLo; omega
theorem gSz_lo (x : Int32) : gSz x = gLo x / 16 := by
  have h := pk_shr x ((4 : Int32) &&& 31) 4 (by decide +kernel)
  rw [Int.shiftRight_eq_div_pow] at h
  unfold gSz gLo
  generalize hb : x >>> ((4 : Int32) &&& 31) = y at h ⊢
  have e1 : x.toInt = x.toBitVec.toInt := rfl
  have e2 : y.toInt = y.toBitVec.toInt := rfl
  rw [e1, e2, BitVec.toInt_eq_toNat_cond, BitVec.toInt_eq_toNat_cond] at h
  have h1 := x.toBitVec.isLt
  have h2 := y.toBitVec.isLt
  generalize x.toBitVec.toNat = a at *
  generalize y.toBitVec.toNat = b at *
  split at h <;> split at h <;> omega
theorem gN_tn (k : Nat) : (nI k).toBitVec.toNat = k % 4294967296 := BitVec.toNat_ofNat k 32
theorem gLo_add (x : Int32) (k : Nat) : gLo (x + nI k) = (gLo x + k) % 128 := by
  unfold gLo
  rw [Int32.toBitVec_add, BitVec.toNat_add, gN_tn]
  omega
theorem gLo_or (x y : Int32) : gLo (x ||| y) = gLo x ||| gLo y := by
  unfold gLo
  rw [Int32.toBitVec_or, BitVec.toNat_or]
  exact Nat.or_mod_two_pow (n := 7)
theorem gLo_and (x y : Int32) : gLo (x &&& y) = gLo x &&& gLo y := by
  unfold gLo
  rw [Int32.toBitVec_and, BitVec.toNat_and]
  exact Nat.and_mod_two_pow (n := 7)
theorem gLo_mask (x y : Int32) (h : gLo y = 127) : gLo (x &&& y) = gLo x := by
  rw [gLo_and, h]
  have := Nat.and_two_pow_sub_one_eq_mod (gLo x) 7
  rw [show (127 : Nat) = 2 ^ 7 - 1 from rfl, this]
  exact Nat.mod_eq_of_lt (gLo_lt x)
theorem gLo_hi (x y : Int32) (h : gLo y = 0) : gLo (x ||| y) = gLo x := by rw [gLo_or, h, Nat.or_zero]
theorem gLo_shl (a : Int32) (s : Int32) (k : Nat) (hs : (s.toBitVec.smod 32).toNat = k) (hk : 7 ≤ k) : gLo (a <<< s) = 0 := by
  unfold gLo
  rw [pk_shl a s k hs]
  obtain ⟨d, rfl⟩ : ∃ d, k = 7 + d := ⟨k - 7, by omega⟩
  rw [Nat.pow_add]
  have e : a.toBitVec.toNat * (2 ^ 7 * 2 ^ d) = 128 * (a.toBitVec.toNat * 2 ^ d) := by
    rw [← Nat.mul_assoc, Nat.mul_comm a.toBitVec.toNat (2 ^ 7), Nat.mul_assoc]
  rw [e]
  omega
theorem gLo_sub16 (x : Int32) (h : 16 ≤ gLo x) : gLo (x - 16) = gLo x - 16 := by
  unfold gLo at *
  rw [Int32.toBitVec_sub, BitVec.toNat_sub]
  have e : (16 : Int32).toBitVec.toNat = 16 := by decide
  rw [e]
  have := x.toBitVec.isLt
  omega
/-- at most six stores wait, of each CORE -/
def gOkW (f : Nat → Int32) : Prop := ∀ k, k < 3 → gSz (f (13 + k)) ≤ 6
theorem gOkW_0 {f : Nat → Int32} (h : ∀ k, k < 3 → f (13 + k) = 0) : gOkW f := fun k hk => by rw [h k hk]; decide
theorem gOkW_out {f : Nat → Int32} (h : gOkW f) {i : Nat} {x : Int32} (hi : i < 13 ∨ 16 ≤ i) : gOkW (upd f i x) := fun k hk => by
  rw [pk_un (by omega)]
  exact h k hk
theorem gOkW_in {f : Nat → Int32} (h : gOkW f) {k0 : Nat} {x : Int32} (hx : gSz x ≤ 6) : gOkW (upd f (13 + k0) x) := fun k hk => by
  by_cases e : k = k0
  · subst e; rw [pk_us]; exact hx
  · rw [pk_un (by omega)]; exact h k hk
theorem gOkW_in' {f : Nat → Int32} (h : gOkW f) {k0 : Nat} {x : Int32} (hx : gLo x < 112) : gOkW (upd f (13 + k0) x) := gOkW_in h (by rw [gSz_lo]; omega)
theorem gOkW_lo {f : Nat → Int32} (h : gOkW f) {k : Nat} (hk : k < 3) : gLo (f (13 + k)) < 112 := by
  have h1 := h k hk
  rw [gSz_lo] at h1
  omega
theorem s_l : ∀ n, n < 32 → ((nI n &&& 31).toBitVec.smod 32).toNat = n := by decide +kernel
theorem gy_dec (n : Nat) : nI n + Int32.ofInt (-1) = nI n - 1 := by rw [Int32.sub_eq_add_neg]; rfl
theorem gy_m1z {i : Nat} (hi : i < 2 ^ 30) (h : nI i - 1 < 0) : i = 0 := by
  by_cases e : i = 0
  · exact e
  · have e1 : nI i - 1 = nI (i - 1) := pk_sub (a := i) (b := 1) (by omega)
    rw [e1] at h
    exact absurd h (nI_pos (by omega))
theorem gy_m1p {i : Nat} (hi : i < 2 ^ 30) (h : ¬ nI i - 1 < 0) : 0 < i := by
  by_cases e : i = 0
  · subst e; exact absurd (by decide) h
  · omega
theorem gOkW_put {f : Nat → Int32} {k x : Nat} {v : Int32} (hW : gOkW f) (hk : k < 3) (h6 : gSz (f (13 + k)) < 6) : gOkW (upd (upd (upd f ((16 + (k * 6)) + gSz (f (13 + k))) v) (13 + k) (upd f ((16 + (k * 6)) + gSz (f (13 + k))) v (13 + k) + 16)) (13 + k) (upd (upd f ((16 + (k * 6)) + gSz (f (13 + k))) v) (13 + k) (upd f ((16 + (k * 6)) + gSz (f (13 + k))) v (13 + k) + 16) (13 + k) ||| nI x <<< (nI (7 + (2 * gSz (f (13 + k)))) &&& 31))) := by
  have h1 : gOkW (upd f ((16 + (k * 6)) + gSz (f (13 + k))) v) := gOkW_out hW (by omega)
  have e1 : upd f ((16 + (k * 6)) + gSz (f (13 + k))) v (13 + k) = f (13 + k) := pk_un (by omega)
  have hlo : gLo (f (13 + k)) < 96 := by
    have := gSz_lo (f (13 + k))
    omega
  have h16 : gLo (f (13 + k) + 16) < 112 := by
    rw [show (16 : Int32) = nI 16 from rfl, gLo_add]
    omega
  rw [e1]
  have h2 : gOkW (upd (upd f ((16 + (k * 6)) + gSz (f (13 + k))) v) (13 + k) (f (13 + k) + 16)) := gOkW_in' h1 h16
  refine gOkW_in' h2 ?_
  rw [gLo_hi _ _ (gLo_shl _ _ (7 + (2 * gSz (f (13 + k)))) (s_l _ (by omega)) (by omega)), pk_us]
  exact h16
theorem gOkW_cpy {f g : Nat → Int32} (h : gOkW g) {sp dp n : Nat} (hd : 16 ≤ dp) : gOkW (va_cpy f g sp dp n) := fun k hk => by
  rw [pk_cpy_out (by omega)]
  exact h k hk
