section GF
variable {p : Program} {l : Launch} {e : Env} {R : Room} {s : State} {m : MethodId} {args : Array Value} {below : List Frame} {meth : Method} {c : Code} {H H0 : Heap} {locs : List Loc} {cells slots : Nat} {Q : State → Prop}
variable {pc : Nat} {ls : Array Slot} {rest st0 : List Value}
/-- a value that nobody asks about -/
theorem gx_gen {x : Int32} (k : ∀ z : Int32, W p l e R s m args below meth c H locs cells slots Q (F0 m pc ls (.int z :: rest))) : W p l e R s m args below meth c H locs cells slots Q (F0 m pc ls (.int x :: rest)) := k x
theorem gx_genl {x : Int64} (k : ∀ z : Int64, W p l e R s m args below meth c H locs cells slots Q (F0 m pc ls (.long z :: rest))) : W p l e R s m args below meth c H locs cells slots Q (F0 m pc ls (.long x :: rest)) := k x
end GF
theorem gy_min {a b : Nat} (ha : a < 2 ^ 31) (hb : b < 2 ^ 31) : (if nI b < nI a then nI b else nI a) = nI (min a b) := by
  by_cases h : b < a
  · rw [if_pos ((nI_ltI hb ha).mpr h), Nat.min_eq_right (by omega)]
  · rw [if_neg (fun q => h ((nI_ltI hb ha).mp q)), Nat.min_eq_left (by omega)]
theorem gy_div {a b : Nat} (ha : a < 2 ^ 31) (hb : b < 2 ^ 31) : nI a / nI b = nI (a / b) := by
  have hne : nI a ≠ Int32.minValue := by
    intro q
    have := congrArg Int32.toInt q
    rw [nI_toInt ha] at this
    have h2 : Int32.minValue.toInt = -2147483648 := by decide
    omega
  have hd : a / b < 2 ^ 31 := Nat.lt_of_le_of_lt (Nat.div_le_self a b) ha
  refine Int32.toInt_inj.mp ?_
  rw [Int32.toInt_div_of_ne_left _ _ hne, nI_toInt ha, nI_toInt hb, nI_toInt hd]
  rfl
theorem gy_rem {a b : Nat} (ha : a < 2 ^ 31) (hb : b < 2 ^ 31) : nI a - nI a / nI b * nI b = nI (a % b) := by
  rw [gy_div ha hb]
  have h1 : nI (a / b) * nI b = nI (a / b * b) := pk_mul (a / b) b
  rw [h1, pk_sub (a := a) (b := a / b * b) (Nat.div_mul_le_self a b)]
  congr 1
  have := Nat.div_add_mod a b
  rw [Nat.mul_comm] at this
  omega
/-- a row of a width -/
theorem gy_row {n sz wd : Nat} (h : n < sz) : n * wd + wd ≤ sz * wd := by
  have h1 : (n + 1) * wd ≤ sz * wd := Nat.mul_le_mul_right wd h
  rw [Nat.add_mul, Nat.one_mul] at h1
  exact h1
/-- slots: empty, or the number of a STATE and 1 -/
def gSl (sl : Nat → Int32) (sz : Nat) : Prop := ∀ j, j < 4096 → sl j = 0 ∨ (1 ≤ (sl j).toBitVec.toNat % 4096 ∧ (sl j).toBitVec.toNat % 4096 ≤ sz)
theorem gSl_0 {sl : Nat → Int32} (h : ∀ j, j < 4096 → sl j = 0) : gSl sl 0 := fun j hj => Or.inl (h j hj)
theorem gLw_or (x : Int32) {n : Nat} (hn : n < 4096) : ((x &&& (-4096)) ||| nI n).toBitVec.toNat % 4096 = n := by
  rw [Int32.toBitVec_or, BitVec.toNat_or, Int32.toBitVec_and, BitVec.toNat_and, gN_tn]
  have e1 := Nat.or_mod_two_pow (a := x.toBitVec.toNat &&& (-4096 : Int32).toBitVec.toNat) (b := n % 4294967296) (n := 12)
  have e2 := Nat.and_mod_two_pow (a := x.toBitVec.toNat) (b := (-4096 : Int32).toBitVec.toNat) (n := 12)
  have e3 : (-4096 : Int32).toBitVec.toNat % 2 ^ 12 = 0 := by decide
  rw [show (4096 : Nat) = 2 ^ 12 from rfl, e1, e2, e3, Nat.and_zero, Nat.zero_or]
  omega
theorem gSl_add {sl : Nat → Int32} {sz j0 : Nat} {x : Int32} (h : gSl sl sz) (hs : sz < 3000) : gSl (upd sl j0 ((x &&& (-4096)) ||| nI (sz + 1))) (sz + 1) := by
  intro j hj
  by_cases e : j = j0
  · subst e
    rw [pk_us, gLw_or x (by omega)]
    exact Or.inr ⟨by omega, by omega⟩
  · rw [pk_un e]
    rcases h j hj with h | h
    · exact Or.inl h
    · exact Or.inr ⟨h.1, by omega⟩
/-- STATES in rows: at most six stores wait -/
def gRw (rf : Nat → Int32) (wd sz : Nat) : Prop := ∀ n, n < sz → ∀ k, k < 3 → gSz (rf (n * wd + (13 + k))) ≤ 6
theorem gRw_0 {rf : Nat → Int32} {wd : Nat} : gRw rf wd 0 := fun n h => absurd h (Nat.not_lt_zero n)
theorem gRw_add {rf rf' f : Nat → Int32} {wd sz : Nat} (h : gRw rf wd sz) (hw : 16 ≤ wd) (h1 : ∀ j, j < sz * wd → rf' j = rf j) (h2 : ∀ j, j < wd → rf' (sz * wd + j) = f j) (hf : gOkW f) : gRw rf' wd (sz + 1) := by
  intro n hn k hk
  by_cases e : n = sz
  · subst e; rw [h2 (13 + k) (by omega)]; exact hf k hk
  · have := gy_row (n := n) (sz := sz) (wd := wd) (by omega)
    rw [h1 _ (by omega)]
    exact h n (by omega) k hk
theorem gRw_get {rf f : Nat → Int32} {wd sz n : Nat} (h : gRw rf wd sz) (hw : 16 ≤ wd) (hn : n < sz) : gOkW (va_cpy rf f (n * wd) 0 wd) := by
  intro k hk
  rw [pk_cpy_in (by omega) (by omega)]
  exact h n hn k hk
/-- of a STATE: from where and by which step it came -/
def gCm (cm : Nat → Int32) (sz : Nat) : Prop := ∀ n, n < sz → cm n = (-1) ∨ ∃ q, q < 8 * sz ∧ cm n = nI q
theorem gCm_add {cm : Nat → Int32} {sz : Nat} {x : Int32} (h : gCm cm sz) (hx : x = (-1) ∨ ∃ q, q < 8 * (sz + 1) ∧ x = nI q) : gCm (upd cm sz x) (sz + 1) := by
  intro n hn
  by_cases e : n = sz
  · subst e; rw [pk_us]; exact hx
  · rw [pk_un e]
    rcases h n (by omega) with h | ⟨q, h1, h2⟩
    · exact Or.inl h
    · exact Or.inr ⟨q, by omega, h2⟩
/-- the ends: numbers of STATES -/
def gEn (ef : Nat → Int32) (es sz : Nat) : Prop := ∀ j, j < es → ∃ q, q < sz ∧ ef j = nI q
theorem gEn_up {ef : Nat → Int32} {es sz sz' : Nat} (h : gEn ef es sz) (hs : sz ≤ sz') : gEn ef es sz' := fun j hj => by
  obtain ⟨q, h1, h2⟩ := h j hj
  exact ⟨q, by omega, h2⟩
theorem gEn_put {ef : Nat → Int32} {es sz lo n : Nat} (h : gEn ef es sz) (hl : lo ≤ es) (hn : n < sz) : gEn (upd (va_cpy ef ef lo (lo + 1) (es - lo)) lo (nI n)) (es + 1) sz := by
  intro j hj
  by_cases e : j = lo
  · subst e; rw [pk_us]; exact ⟨n, hn, rfl⟩
  · rw [pk_un e]
    by_cases e2 : j < lo
    · rw [pk_cpy_out (by omega)]; exact h j (by omega)
    · rw [pk_cpy_in (by omega) (by omega)]; exact h _ (by omega)
theorem gy_z01 {z : Int32} (h : z = 0 ∨ z = 1) : narrow .boolean (.int z) = .int z := by
  rcases h with rfl | rfl <;> rfl
/-- how wide rows grow -/
def gRl (rl : Nat) : Prop := rl = 1600 ∨ rl = 6400 ∨ rl = 25600 ∨ rl = 102000
theorem gRl_le {rl : Nat} (h : gRl rl) : rl ≤ 102000 := by unfold gRl at h; omega
theorem gRl_ge {rl : Nat} (h : gRl rl) : 1600 ≤ rl := by unfold gRl at h; omega
def gZ (z : Int32) : Prop := z = 0 ∨ z = 1
