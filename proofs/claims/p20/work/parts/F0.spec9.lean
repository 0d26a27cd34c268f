
def rFo (d : Nat → Nat) : Nat → Nat
  | 0 => 0
  | m + 1 => rFo d m * 256 + d m
theorem rFo_lt {d : Nat → Nat} {m : Nat} (h : ∀ i, i < m → d i ≤ 127) : rFo d m * 2 < 256 ^ m := by
  induction m with
  | zero => exact Nat.zero_lt_one
  | succ m ih =>
    have a := ih (fun i hi => h i (by omega))
    have b := h m (by omega)
    show (rFo d m * 256 + d m) * 2 < 256 ^ (m + 1)
    rw [Nat.pow_succ]
    omega
theorem rFo_inj {d e : Nat → Nat} : ∀ {m n : Nat}, (∀ i, i < m → 1 ≤ d i ∧ d i < 256) → (∀ i, i < n → 1 ≤ e i ∧ e i < 256) → rFo d m = rFo e n → m = n ∧ ∀ i, i < m → d i = e i := by
  intro m
  induction m with
  | zero =>
    intro n hd he h
    cases n with
    | zero => exact ⟨rfl, fun i hi => absurd hi (Nat.not_lt_zero i)⟩
    | succ n =>
      have a := he n (by omega)
      have b : rFo e (n + 1) = rFo e n * 256 + e n := rfl
      have c : rFo d 0 = 0 := rfl
      omega
  | succ m ih =>
    intro n hd he h
    cases n with
    | zero =>
      have a := hd m (by omega)
      have b : rFo d (m + 1) = rFo d m * 256 + d m := rfl
      have c : rFo e 0 = 0 := rfl
      omega
    | succ n =>
      have a := hd m (by omega)
      have b : rFo d (m + 1) = rFo d m * 256 + d m := rfl
      have a2 := he n (by omega)
      have b2 : rFo e (n + 1) = rFo e n * 256 + e n := rfl
      have q : rFo d m = rFo e n := by omega
      have r : d m = e n := by omega
      obtain ⟨h1, h2⟩ := ih (n := n) (fun i hi => hd i (by omega)) (fun i hi => he i (by omega)) q
      subst h1
      refine ⟨rfl, fun i hi => ?_⟩
      by_cases e9 : i = m
      · subst e9; exact r
      · exact h2 i (by omega)
theorem rFo_eq {d e : Nat → Nat} {m : Nat} (h : ∀ i, i < m → d i = e i) : rFo d m = rFo e m := by
  induction m with
  | zero => rfl
  | succ m ih =>
    show rFo d m * 256 + d m = rFo e m * 256 + e m
    rw [ih (fun i hi => h i (by omega)), h m (by omega)]
theorem gLe_n {x : Int32} (h : gLe x) : ∃ m, 97 ≤ m ∧ m ≤ 122 ∧ x = nI m := by
  have h0 : ¬ x < 0 := fun q => h.1 (Int32.lt_trans q (by decide))
  obtain ⟨j, hj, rfl⟩ := nI_of h0
  have a1 : ¬ j < 97 := fun q => h.1 ((nI_ltI (b := 97) hj (by decide)).mpr q)
  have a2 : ¬ 122 < j := fun q => h.2 ((nI_ltI (a := 122) (by decide) hj).mpr q)
  exact ⟨j, by omega, by omega, rfl⟩
/-- a byte as a number -/
def gBy (x : Int32) : Nat := x.toInt.toNat
theorem gBy_n {m : Nat} (h : m < 2 ^ 31) : gBy (nI m) = m := by
  unfold gBy
  rw [nI_toInt h]
  rfl
theorem gBy_l {x : Int32} (h : gLe x) : 97 ≤ gBy x ∧ gBy x ≤ 122 ∧ x = nI (gBy x) := by
  obtain ⟨m, h1, h2, rfl⟩ := gLe_n h
  rw [gBy_n (by omega)]
  exact ⟨h1, h2, rfl⟩
theorem rPk_s {a c : Nat} (ha : a < 2 ^ 55) (hc : c < 256) : ((lN a) <<< ((8 : Int32).toInt64 &&& 63)) ||| (nI c).toInt64 = lN (a * 256 + c) := by
  rw [nI_l (by omega), show (8 : Int32).toInt64 &&& 63 = (8 : Int64) by decide]
  apply Int64.toBitVec_inj.mp
  rw [Int64.toBitVec_or]
  show (BitVec.ofNat 64 a <<< ((8 : Int64).toBitVec.smod 64)) ||| BitVec.ofNat 64 c = BitVec.ofNat 64 (a * 256 + c)
  rw [show (8 : Int64).toBitVec.smod 64 = 8#64 by decide]
  apply BitVec.eq_of_toNat_eq
  have e1 : (BitVec.ofNat 64 a <<< (8#64)).toNat = a * 256 := by
    show ((BitVec.ofNat 64 a) <<< (8 : Nat)).toNat = _
    rw [BitVec.toNat_shiftLeft, BitVec.toNat_ofNat, Nat.mod_eq_of_lt (a := a) (by omega), Nat.shiftLeft_eq, Nat.mod_eq_of_lt (by omega)]
  rw [BitVec.toNat_or, e1, BitVec.toNat_ofNat, BitVec.toNat_ofNat, Nat.mod_eq_of_lt (a := c) (by omega), Nat.mod_eq_of_lt (a := a * 256 + c) (by omega)]
  have q := Nat.shiftLeft_add_eq_or_of_lt (i := 8) (show c < 2 ^ 8 by omega) a
  rw [Nat.shiftLeft_eq] at q
  exact q.symm
/-- the word that m bytes from k on spell -/
def rPw (f : Nat → Int32) (k m : Nat) : Nat := rFo (fun j => gBy (f (k + j))) m
theorem rPw_lt {f : Nat → Int32} {k m M : Nat} (h : ∀ j, k ≤ j → j < k + m → gLe (f j)) (hm : m ≤ M) : rPw f k m * 2 < 256 ^ M := by
  have a : rPw f k m * 2 < 256 ^ m := rFo_lt (fun i hi => by have := gBy_l (h (k + i) (by omega) (by omega)); omega)
  exact Nat.lt_of_lt_of_le a (Nat.pow_le_pow_right (by decide) hm)
theorem rPk_b {f : Nat → Int32} {k i e : Nat} {w : Int64} (hk : k ≤ i) (h : w = lN (rPw f k (i - k))) (hl : ∀ j, k ≤ j → j < e → gLe (f j)) (hi : i < e) (h8 : e - k ≤ 8) : (w <<< ((8 : Int32).toInt64 &&& 63)) ||| (f i).toInt64 = lN (rPw f k (i + 1 - k)) := by
  subst h
  have a := rPw_lt (f := f) (k := k) (m := i - k) (M := 7) (fun j h1 h2 => hl j h1 (by omega)) (by omega)
  obtain ⟨b1, b2, b3⟩ := gBy_l (hl i hk hi)
  rw [show i + 1 - k = (i - k) + 1 by omega]
  show _ = lN (rPw f k (i - k) * 256 + gBy (f (k + (i - k))))
  rw [show k + (i - k) = i by omega]
  have c := rPk_s (a := rPw f k (i - k)) (c := gBy (f i)) (by have e56 : (256 : Nat) ^ 7 = 2 ^ 56 := (by decide); omega) (by omega)
  rw [← b3] at c
  exact c
def rWn (q : Nat) : Nat := [1819238756, 495874699877, 7562612, 6382692, 439788397413, 1937203568, 6909539, 6513011, 26982, 1667591276, 1668248165, 6647396, 1936419184, 97, 98, 99].getD q 0
def rWd (q : Nat) : Int64 := lN (rWn q)
def rLn (q : Nat) : Nat := [4, 5, 3, 3, 5, 4, 3, 3, 2, 4, 4, 3, 4, 1, 1, 1].getD q 0
theorem rW_a : ∀ q, q < 16 → ∀ m, m < 6 → gTn (q * 6 + m) = 32 → rLn q ≤ m := by decide +kernel
theorem rW_b : ∀ q, q < 16 → gTn (q * 6 + rLn q) = 32 ∧ rLn q < 6 ∧ rFo (fun i => gTn (q * 6 + i)) (rLn q) = rWn q ∧ rWn q < 2 ^ 62 := by decide +kernel
theorem rW_c : ∀ q, q < 16 → ∀ i, i < rLn q → 97 ≤ gTn (q * 6 + i) ∧ gTn (q * 6 + i) ≤ 122 := by decide +kernel
theorem rW_i : ∀ a, a < 16 → ∀ b, b < 16 → rWn a = rWn b → a = b := by decide +kernel
theorem lN_in {a b : Nat} (ha : a < 2 ^ 63) (hb : b < 2 ^ 63) (h : lN a = lN b) : a = b := by
  have q := congrArg Int64.toInt h
  unfold lN at q
  rw [Int64.toInt_ofNat_of_lt ha, Int64.toInt_ofNat_of_lt hb] at q
  omega
theorem rWd_i {a b : Nat} (ha : a < 16) (hb : b < 16) (h : rWd a = rWd b) : a = b := by
  have a1 := (rW_b a ha).2.2.2
  have b1 := (rW_b b hb).2.2.2
  exact rW_i a ha b hb (lN_in (by omega) (by omega) h)
theorem gTc_n {k : Nat} : gTc k = nI (gTn k) := rfl
theorem gTn_lt {k : Nat} : gTn k < 256 := Nat.mod_lt _ (by decide)
theorem rWd_y {f : Nat → Int32} {b m q : Nat} (hl : ∀ j, b ≤ j → j < b + m → gLe (f j)) (hq : q < 16) (hm : m < 6) (h : gIsW f b m q) : rPw f b m = rWn q := by
  have h1 := rW_a q hq m hm h.2
  have h2 := rW_b q hq
  have e : m = rLn q := by
    apply Nat.le_antisymm ?_ h1
    apply Nat.le_of_not_lt
    intro hlt
    have c := h.1 (rLn q) hlt
    have d := gBy_l (hl (b + rLn q) (by omega) (by omega))
    rw [c, gTc_n, h2.1, gBy_n (by omega)] at d
    omega
  rw [← h2.2.2.1, e]
  refine rFo_eq (fun i hi => ?_)
  show gBy (f (b + i)) = _
  rw [h.1 i (by omega), gTc_n, gBy_n (by have := gTn_lt (k := q * 6 + i); omega)]
theorem rWd_x {f : Nat → Int32} {b m q : Nat} (hl : ∀ j, b ≤ j → j < b + m → gLe (f j)) (hq : q < 16) (h : rPw f b m = rWn q) : gIsW f b m q ∧ m < 6 := by
  have h2 := rW_b q hq
  rw [← h2.2.2.1] at h
  obtain ⟨h3, h4⟩ := rFo_inj (d := fun j => gBy (f (b + j))) (e := fun i => gTn (q * 6 + i)) (fun i hi => by have := gBy_l (hl (b + i) (by omega) (by omega)); exact ⟨by omega, by omega⟩) (fun i hi => by have := rW_c q hq i hi; exact ⟨by omega, by omega⟩) h
  refine ⟨⟨fun i hi => ?_, by rw [h3]; exact h2.1⟩, by omega⟩
  have a := (gBy_l (hl (b + i) (by omega) (by omega))).2.2
  have c : gBy (f (b + i)) = gTn (q * 6 + i) := h4 i hi
  rw [a, c]
  rfl
/-- what token() finds -/
def rT9 (f : Nat → Int32) (n p : Nat) (so : Int32) (bg en : Nat) (wd : Int64) : Prop := gBb f n p bg ∧ ((bg = n ∧ so = 0) ∨ (bg < n ∧ gBr f n bg en ∧ ((gLe (f bg) ∧ ((8 < en - bg ∧ so = 5) ∨ (en - bg ≤ 8 ∧ so = 1 ∧ wd = lN (rPw f bg (en - bg))))) ∨ (¬ gLe (f bg) ∧ gDi (f bg) ∧ ((3 < en - bg ∧ so = 5) ∨ (en - bg ≤ 3 ∧ so = 2))) ∨ (¬ gLe (f bg) ∧ ¬ gDi (f bg) ∧ (((f bg = 58 ∨ f bg = 59 ∨ f bg = 61 ∨ f bg = 45) ∧ so = 3 ∧ wd = (f bg).toInt64) ∨ (¬ f bg = 58 ∧ ¬ f bg = 59 ∧ ¬ f bg = 61 ∧ ¬ f bg = 45 ∧ so = 5))))))
/-- a TOKEN of kind q as the reference holds it -/
def rSo (f : Nat → Int32) (bg en q : Nat) (v so : Int32) (wd : Int64) : Prop := (q = 21 ∧ so = 0) ∨ (q < 16 ∧ so = 1 ∧ wd = rWd q) ∨ (q = 16 ∧ so = 2 ∧ v = nI (rNm f bg (en - bg))) ∨ (q = 17 ∧ so = 3 ∧ wd = 58) ∨ (q = 18 ∧ so = 3 ∧ wd = 59) ∨ (q = 19 ∧ so = 3 ∧ wd = 61) ∨ (q = 20 ∧ so = 3 ∧ wd = 45) ∨ (q = 22 ∧ so = 5) ∨ (q = 22 ∧ so = 1 ∧ ∀ i, i < 16 → ¬ wd = rWd i)
theorem rLk {f : Nat → Int32} {n p e q bg en : Nat} {s v so : Int32} {wd : Int64} (h : gT1 f n p e q s v) (k : rT9 f n p so bg en wd) : s = nI bg ∧ rSo f bg en q v so wd ∧ (q < 21 → en = e) := by
  obtain ⟨b, hs, hb, hc⟩ := h
  obtain ⟨kb, kc⟩ := k
  obtain rfl : b = bg := gBb_u hb kb
  refine ⟨hs, ?_⟩
  rcases hc with ⟨h1, h2⟩ | ⟨h1, h2, h3, h4⟩
  · rcases kc with ⟨k1, k2⟩ | ⟨k1, _⟩
    · exact ⟨Or.inl ⟨h2, k2⟩, fun q9 => absurd q9 (by omega)⟩
    · omega
  · rcases kc with ⟨k1, _⟩ | ⟨_, k2, k3⟩
    · omega
    · obtain rfl : e = en := gBr_u h2 k2
      refine ⟨?_, fun _ => rfl⟩
      unfold gKd at h3
      rcases h3 with ⟨a, w⟩ | ⟨a, d, w⟩ | ⟨a, d, w⟩
      · have hl : ∀ j, b ≤ j → j < b + (e - b) → gLe (f j) := fun j j1 j2 => (h2.2.2.1 a).1 j j1 (by have := h2.1; omega)
        rcases k3 with ⟨_, k3⟩ | ⟨k3, _⟩ | ⟨k3, _⟩
        · rcases w with ⟨w1, w2, w3⟩ | ⟨w1, w2⟩
          · rcases k3 with ⟨k4, _⟩ | ⟨k4, k5, k6⟩
            · omega
            · exact Or.inr (Or.inl ⟨w1, k5, by rw [k6, rWd_y hl w1 w2 w3]; rfl⟩)
          · rcases k3 with ⟨k4, k5⟩ | ⟨k4, k5, k6⟩
            · exact Or.inr (Or.inr (Or.inr (Or.inr (Or.inr (Or.inr (Or.inr (Or.inl ⟨w1, k5⟩)))))))
            · refine Or.inr (Or.inr (Or.inr (Or.inr (Or.inr (Or.inr (Or.inr (Or.inr ⟨w1, k5, fun i hi hw => ?_⟩)))))))
              have b1 := (rW_b i hi).2.2.2
              have b2 := rPw_lt (M := 8) hl k4
              have b3 : (256 : Nat) ^ 8 = 2 ^ 64 := by decide
              have b4 := rWd_x hl hi (lN_in (by omega) (by omega) (k6.symm.trans hw))
              rcases w2 with w2 | w2
              · omega
              · exact w2 i hi b4.1
        · exact absurd a k3
        · exact absurd a k3
      · rcases k3 with ⟨k3, _⟩ | ⟨_, _, k3⟩ | ⟨_, k3, _⟩
        · exact absurd k3 a
        · rcases w with ⟨w1, w2⟩ | ⟨w1, w2⟩
          · rcases k3 with ⟨k4, _⟩ | ⟨k4, k5⟩
            · omega
            · exact Or.inr (Or.inr (Or.inl ⟨w2, k5, h4 w2⟩))
          · rcases k3 with ⟨k4, k5⟩ | ⟨k4, k5⟩
            · exact Or.inr (Or.inr (Or.inr (Or.inr (Or.inr (Or.inr (Or.inr (Or.inl ⟨w2, k5⟩)))))))
            · omega
        · exact absurd d k3
      · rcases k3 with ⟨k3, _⟩ | ⟨_, k3, _⟩ | ⟨_, _, k3⟩
        · exact absurd k3 a
        · exact absurd k3 d
        · rcases k3 with ⟨k4, k5, k6⟩ | ⟨n1, n2, n3, n4, k5⟩
          · rcases w with ⟨w1, w2⟩ | ⟨w1, w2⟩ | ⟨w1, w2⟩ | ⟨w1, w2⟩ | ⟨w1, w2, w3, w4, w5⟩
            · exact Or.inr (Or.inr (Or.inr (Or.inr (Or.inr (Or.inr (Or.inl ⟨w2, k5, by rw [k6, w1]; decide⟩))))))
            · exact Or.inr (Or.inr (Or.inr (Or.inl ⟨w2, k5, by rw [k6, w1]; decide⟩)))
            · exact Or.inr (Or.inr (Or.inr (Or.inr (Or.inl ⟨w2, k5, by rw [k6, w1]; decide⟩))))
            · exact Or.inr (Or.inr (Or.inr (Or.inr (Or.inr (Or.inl ⟨w2, k5, by rw [k6, w1]; decide⟩)))))
            · rcases k4 with k4 | k4 | k4 | k4
              · exact absurd k4 w2
              · exact absurd k4 w3
              · exact absurd k4 w4
              · exact absurd k4 w1
          · rcases w with ⟨w1, w2⟩ | ⟨w1, w2⟩ | ⟨w1, w2⟩ | ⟨w1, w2⟩ | ⟨w1, w2, w3, w4, w5⟩
            · exact absurd w1 n4
            · exact absurd w1 n1
            · exact absurd w1 n2
            · exact absurd w1 n3
            · exact Or.inr (Or.inr (Or.inr (Or.inr (Or.inr (Or.inr (Or.inr (Or.inl ⟨w5, k5⟩)))))))
section RS
variable {f : Nat → Int32} {bg en q x : Nat} {v so : Int32} {wd : Int64}
theorem rSo_w (h : rSo f bg en q v so wd) (hx : x < 16) (h1 : so = 1) (h2 : wd = rWd x) : q = x := by
  subst h1
  unfold rSo at h
  rcases h with ⟨_, b⟩ | ⟨a, _, b⟩ | ⟨_, b, _⟩ | ⟨_, b, _⟩ | ⟨_, b, _⟩ | ⟨_, b, _⟩ | ⟨_, b, _⟩ | ⟨_, b⟩ | ⟨_, _, b⟩
  · exact absurd b (by decide)
  · exact rWd_i a hx (b.symm.trans h2)
  all_goals first | exact absurd b (by decide) | exact absurd h2 (b x hx)
theorem rSo_wn (h : rSo f bg en q v so wd) (hx : x < 16) (hq : q = x) : so = 1 ∧ wd = rWd x := by
  subst hq
  unfold rSo at h
  rcases h with ⟨a, b⟩ | ⟨a, b, c⟩ | ⟨a, b, _⟩ | ⟨a, b, _⟩ | ⟨a, b, _⟩ | ⟨a, b, _⟩ | ⟨a, b, _⟩ | ⟨a, b⟩ | ⟨a, _, b⟩
  · omega
  · exact ⟨b, c⟩
  all_goals omega
theorem rSo_2 (h : rSo f bg en q v so wd) (h1 : so = 2) : q = 16 ∧ v = nI (rNm f bg (en - bg)) := by
  subst h1
  unfold rSo at h
  rcases h with ⟨a, b⟩ | ⟨a, b, _⟩ | ⟨a, b, c⟩ | ⟨a, b, _⟩ | ⟨a, b, _⟩ | ⟨a, b, _⟩ | ⟨a, b, _⟩ | ⟨a, b⟩ | ⟨a, b, _⟩
  · exact absurd b (by decide)
  · exact absurd b (by decide)
  · exact ⟨a, c⟩
  all_goals exact absurd b (by decide)
theorem rSo_2n (h : rSo f bg en q v so wd) (h1 : ¬ so = 2) : ¬ q = 16 := by
  intro hq
  subst hq
  unfold rSo at h
  rcases h with ⟨a, b⟩ | ⟨a, b, _⟩ | ⟨a, b, c⟩ | ⟨a, b, _⟩ | ⟨a, b, _⟩ | ⟨a, b, _⟩ | ⟨a, b, _⟩ | ⟨a, b⟩ | ⟨a, b, _⟩
  · omega
  · omega
  · exact h1 b
  all_goals omega
theorem rSo_0 (h : rSo f bg en q v so wd) (h1 : so = 0) : q = 21 := by
  subst h1
  unfold rSo at h
  rcases h with ⟨a, b⟩ | ⟨a, b, _⟩ | ⟨a, b, c⟩ | ⟨a, b, _⟩ | ⟨a, b, _⟩ | ⟨a, b, _⟩ | ⟨a, b, _⟩ | ⟨a, b⟩ | ⟨a, b, _⟩
  · exact a
  all_goals exact absurd b (by decide)
theorem rSo_0n (h : rSo f bg en q v so wd) (h1 : ¬ so = 0) : ¬ q = 21 := by
  intro hq
  subst hq
  unfold rSo at h
  rcases h with ⟨a, b⟩ | ⟨a, b, _⟩ | ⟨a, b, c⟩ | ⟨a, b, _⟩ | ⟨a, b, _⟩ | ⟨a, b, _⟩ | ⟨a, b, _⟩ | ⟨a, b⟩ | ⟨a, b, _⟩
  · exact h1 b
  all_goals omega
/-- the four signs -/
def rSg (x : Nat) (ch : Int64) : Prop := (x = 17 ∧ ch = 58) ∨ (x = 18 ∧ ch = 59) ∨ (x = 19 ∧ ch = 61) ∨ (x = 20 ∧ ch = 45)
theorem rSo_s {ch : Int64} (h : rSo f bg en q v so wd) (hx : rSg x ch) (h1 : so = 3) (h2 : wd = ch) : q = x := by
  subst h1
  subst h2
  unfold rSo at h
  unfold rSg at hx
  rcases h with ⟨a, b⟩ | ⟨a, b, _⟩ | ⟨a, b, c⟩ | ⟨a, _, b⟩ | ⟨a, _, b⟩ | ⟨a, _, b⟩ | ⟨a, _, b⟩ | ⟨a, b⟩ | ⟨a, b, _⟩
  · exact absurd b (by decide)
  · exact absurd b (by decide)
  · exact absurd b (by decide)
  · subst b; rcases hx with ⟨y, z⟩ | ⟨y, z⟩ | ⟨y, z⟩ | ⟨y, z⟩ <;> first | omega | exact absurd z (by decide)
  · subst b; rcases hx with ⟨y, z⟩ | ⟨y, z⟩ | ⟨y, z⟩ | ⟨y, z⟩ <;> first | omega | exact absurd z (by decide)
  · subst b; rcases hx with ⟨y, z⟩ | ⟨y, z⟩ | ⟨y, z⟩ | ⟨y, z⟩ <;> first | omega | exact absurd z (by decide)
  · subst b; rcases hx with ⟨y, z⟩ | ⟨y, z⟩ | ⟨y, z⟩ | ⟨y, z⟩ <;> first | omega | exact absurd z (by decide)
  · exact absurd b (by decide)
  · exact absurd b (by decide)
theorem rSo_sn {ch : Int64} (h : rSo f bg en q v so wd) (hx : rSg x ch) (hq : q = x) : so = 3 ∧ wd = ch := by
  subst hq
  unfold rSo at h
  unfold rSg at hx
  rcases h with ⟨a, b⟩ | ⟨a, b, _⟩ | ⟨a, b, c⟩ | ⟨a, b, c⟩ | ⟨a, b, c⟩ | ⟨a, b, c⟩ | ⟨a, b, c⟩ | ⟨a, b⟩ | ⟨a, b, _⟩
  · omega
  · omega
  · omega
  · refine ⟨b, c.trans ?_⟩; rcases hx with ⟨y, z⟩ | ⟨y, z⟩ | ⟨y, z⟩ | ⟨y, z⟩ <;> first | exact z.symm | omega
  · refine ⟨b, c.trans ?_⟩; rcases hx with ⟨y, z⟩ | ⟨y, z⟩ | ⟨y, z⟩ | ⟨y, z⟩ <;> first | exact z.symm | omega
  · refine ⟨b, c.trans ?_⟩; rcases hx with ⟨y, z⟩ | ⟨y, z⟩ | ⟨y, z⟩ | ⟨y, z⟩ <;> first | exact z.symm | omega
  · refine ⟨b, c.trans ?_⟩; rcases hx with ⟨y, z⟩ | ⟨y, z⟩ | ⟨y, z⟩ | ⟨y, z⟩ <;> first | exact z.symm | omega
  · omega
  · omega
end RS
