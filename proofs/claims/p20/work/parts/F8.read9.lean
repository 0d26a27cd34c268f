
section RM
variable {a : Nat × Nat} {g : Nat → Nat × Nat} {t x k : Nat} {lp : Int32} {Kd Tk L : Nat → Nat} {sf nf Q : Nat → Int32}
theorem rTk_le : (rTake Kd x t).1 ≤ 2 := by
  unfold rTake
  by_cases h : Kd t = x
  · rw [if_pos h]
    by_cases h2 : t < 500
    · rw [if_pos h2]; exact Nat.zero_le _
    · rw [if_neg h2]; exact Nat.le_refl 2
  · rw [if_neg h]; exact Nat.le_succ 1
theorem rB_le (ha : a.1 ≤ 2) (hg : ∀ t, (g t).1 ≤ 2) : (rB a g).1 ≤ 2 := by
  unfold rB
  split
  · exact hg _
  · exact ha
theorem rReg_le : (rReg Kd t).1 ≤ 2 := by
  unfold rReg
  split
  · exact rTk_le
  · exact Nat.le_succ 1
theorem rInt_le : (rInt Kd t).1 ≤ 2 := by
  unfold rInt
  split
  · exact rB_le rTk_le (fun _ => rTk_le)
  · exact rTk_le
theorem rVal_le : (rVal Kd t).1 ≤ 2 := by
  unfold rVal
  split
  · exact rTk_le
  · exact rInt_le
theorem rPt_le {b : Nat} : (rPt Kd b t).1 ≤ 2 := by
  unfold rPt
  split
  · exact rReg_le
  · exact rTk_le
  · exact rB_le rTk_le (fun _ => rTk_le)
  · exact rVal_le
theorem rIn_le : ∀ {M : List Nat} {t : Nat} {ps : Nat → Int32} {lp : Int32}, (rIn Kd sf nf M t ps lp).1.1 ≤ 2 := by
  intro M
  induction M with
  | nil => intro t ps lp; exact Nat.zero_le _
  | cons b M ih =>
    intro t ps lp
    show (if (rPt Kd b t).1 = 0 then _ else _ : (Nat × Nat) × (Nat → Int32) × Int32).1.1 ≤ 2
    by_cases h : (rPt Kd b t).1 = 0
    · rw [if_pos h]; exact ih
    · rw [if_neg h]; exact rPt_le
theorem rI1_le : (rI1 Kd sf nf t lp).1.1 ≤ 2 := by
  unfold rI1
  split
  · split
    · exact rTk_le
    · exact rIn_le
  · exact Nat.le_refl 2
theorem rIs_le : ∀ {m i t : Nat} {lp : Int32} {Q : Nat → Int32} {Tk : Nat → Nat}, (rIs Kd sf nf k m i t lp Q Tk).1.1 ≤ 2 := by
  intro m
  induction m with
  | zero =>
    intro i t lp Q Tk
    show (if Kd t ≤ 8 then 2 else 0) ≤ 2
    split
    · exact Nat.le_refl 2
    · exact Nat.zero_le _
  | succ m ih =>
    intro i t lp Q Tk
    show (if Kd t ≤ 8 then _ else _ : (Nat × Nat) × Nat × Int32 × (Nat → Int32) × (Nat → Nat)).1.1 ≤ 2
    by_cases h : Kd t ≤ 8
    · rw [if_pos h]
      by_cases h1 : (rI1 Kd sf nf t lp).1.1 = 0
      · rw [if_pos h1]; exact ih
      · rw [if_neg h1]; exact rI1_le
    · rw [if_neg h]; exact Nat.zero_le _
theorem rC1_le : (rC1 Kd sf nf k t lp Q Tk).1.1 ≤ 2 := rB_le (rB_le (rB_le rTk_le (fun _ => rTk_le)) (fun _ => rIs_le)) (fun _ => rTk_le)
theorem rCo_le : ∀ {m k t : Nat} {lp : Int32} {Q : Nat → Int32} {Tk L : Nat → Nat}, (rCo Kd sf nf m k t lp Q Tk L).1.1 ≤ 2 := by
  intro m
  induction m with
  | zero =>
    intro k t lp Q Tk L
    show (if Kd t = 21 then 0 else if Kd t = 10 then 2 else 1) ≤ 2
    split
    · exact Nat.zero_le _
    · split
      · exact Nat.le_refl 2
      · exact Nat.le_succ 1
  | succ m ih =>
    intro k t lp Q Tk L
    show (if ¬ k = 0 ∧ Kd t = 21 then _ else _ : (Nat × Nat) × Nat × Int32 × (Nat → Int32) × (Nat → Nat)).1.1 ≤ 2
    by_cases h : ¬ k = 0 ∧ Kd t = 21
    · rw [if_pos h]; exact Nat.zero_le _
    · rw [if_neg h]
      by_cases h1 : (rC1 Kd sf nf k t lp Q Tk).1.1 = 0
      · rw [if_pos h1]; exact ih
      · rw [if_neg h1]; exact rC1_le
theorem rCl_le : (rCl Kd t).1 ≤ 2 := rB_le (rB_le (rB_le (rB_le rTk_le (fun _ => rTk_le)) (fun _ => rTk_le)) (fun _ => rInt_le)) (fun _ => rTk_le)
theorem rCs_le : ∀ {m t : Nat} {lp tl : Int32} {cf : Nat → Int32}, (rCs Kd sf nf m t lp tl cf).1.1 ≤ 2 := by
  intro m
  induction m with
  | zero => intro t lp tl cf; exact Nat.zero_le _
  | succ m ih =>
    intro t lp tl cf
    show (if Kd t = 9 then _ else _ : (Nat × Nat) × Int32 × (Nat → Int32)).1.1 ≤ 2
    by_cases h : Kd t = 9
    · rw [if_pos h]
      by_cases h1 : (rCl Kd t).1 = 0
      · rw [if_pos h1]; exact ih
      · rw [if_neg h1]; exact rCl_le
    · rw [if_neg h]; exact Nat.zero_le _
theorem rTx_le : (rTx Kd sf nf Q Tk).1.1 ≤ 2 := rB_le rCs_le (fun _ => rCo_le)
end RM
section RL
variable {t9 : Nat} {s z fk fp : Int32} {sf : Nat → Int32} {X : (Nat × Nat) × Nat × Int32 × (Nat → Int32) × (Nat → Nat) × (Nat → Int32)}
theorem rRes_f (h : rOut X.1 t9 (sf t9) z (rFk X.2.2.1) X.2.2.1 fk fp) (hz : z = 0) : rRes X sf fk fp := by
  have hn := rOut_n h hz
  obtain ⟨h1, h2 | h2⟩ := h
  · exact absurd h2.1 hn
  · exact Or.inl ⟨h2.1, h2.2.2.1, by rw [h1]; exact h2.2.2.2⟩
theorem rRes_nz (h : rOut X.1 t9 (sf t9) z (rFk X.2.2.1) X.2.2.1 fk fp) (hz : z = 0) (h3 : X.1.1 < 2 ^ 31) : ¬ fk = 0 := by
  have hn := rOut_n h hz
  obtain ⟨h1, h2 | h2⟩ := h
  · exact absurd h2.1 hn
  · rw [h2.2.2.1]
    exact nI_ne0 (by omega) h3
theorem rRes_l (h : rOut X.1 t9 (sf t9) z (rFk X.2.2.1) X.2.2.1 fk fp) (hz : ¬ z = 0) (hf : ¬ fk = 0) : rRes X sf fk fp := by
  have a := rOut_y h hz
  have n : ¬ X.2.2.1 = (-1) := fun e => hf (a.2.1.trans (rFk_0 e))
  exact Or.inr (Or.inr ⟨congrArg Prod.fst a.1, n, a.2.1.trans (rFk_3 n), a.2.2⟩)
theorem rRes_g (h : rOut X.1 t9 (sf t9) z (rFk X.2.2.1) X.2.2.1 fk fp) (hz : ¬ z = 0) (hf : fk = 0) : rRes X sf 0 fp := by
  have a := rOut_y h hz
  have n : X.2.2.1 = (-1) := rFk_z (fk := fk) a.2.1 hf
  exact Or.inr (Or.inl ⟨congrArg Prod.fst a.1, n, rfl, a.2.2.trans n⟩)
/-- the reference's loaded PROGRAM is what was read -/
def rPM (C Mn : Nat → Nat) (kd cl rg v1 i1 v2 i2 sk ci : Nat → Int32) (X : (Nat × Nat) × Nat × Int32 × (Nat → Int32) × (Nat → Nat) × (Nat → Int32)) : Prop := X.1.1 = 0 ∧ X.2.2.1 = (-1) ∧ C 0 = X.2.1 ∧ rPm Mn kd cl rg v1 i1 v2 i2 sk 0 0 (C 0) X.2.2.2.2.1 X.2.2.2.1 ∧ ∀ c, c < 4 → ci c = X.2.2.2.2.2 c
theorem rPM_mk {C Mn Mn9 : Nat → Nat} {kd cl rg v1 i1 v2 i2 sk kd9 cl9 rg9 v19 i19 v29 i29 sk9 ci ci9 : Nat → Int32} (h : rOut X.1 t9 (sf t9) z (rFk X.2.2.1) X.2.2.1 fk fp) (hz : ¬ z = 0) (hf : fk = 0) (hw : C 1 = X.2.1 ∧ rPm Mn kd cl rg v1 i1 v2 i2 sk 3 36 (C 1) X.2.2.2.2.1 X.2.2.2.1 ∧ ∀ c, c < 4 → ci (4 + c) = X.2.2.2.2.2 c) (hC3 : C 1 ≤ 3) (hm : gMp Mn9 Mn (C 1) 3) (e0 : gCp kd9 kd 36) (e1 : gCp cl9 cl 36) (e2 : gCp rg9 rg 36) (e3 : gCp v19 v1 36) (e4 : gCp i19 i1 36) (e5 : gCp v29 v2 36) (e6 : gCp i29 i2 36) (e7 : gCp sk9 sk 36) (hc : ∀ c, c < 4 → ci9 c = ci (4 + c)) : rPM (updN C 0 (C 1)) Mn9 kd9 cl9 rg9 v19 i19 v29 i29 sk9 ci9 X := by
  have a := rOut_y h hz
  refine ⟨congrArg Prod.fst a.1, rFk_z (fk := fk) a.2.1 hf, by rw [updN_s]; exact hw.1, ?_, fun c hc9 => (hc c hc9).trans (hw.2.2 c hc9)⟩
  rw [updN_s]
  intro k hk
  obtain ⟨h1, h2, h3⟩ := hw.2.1 k hk
  refine ⟨?_, h2, fun i hi => ?_⟩
  · rw [show 0 + k = k by omega, hm.1 k (by omega), if_pos hk]
    exact h1
  · obtain ⟨g1, g2⟩ := h3 i hi
    have ex : ∀ {x x0 : Nat → Int32}, gCp x x0 36 → x (0 + (12 * k) + i) = x0 (36 + (12 * k) + i) := by
      intro x x0 h
      rw [h.1 _ (by omega)]
      congr 1
      omega
    refine ⟨(ex e0).trans g1, ?_⟩
    obtain ⟨a1, a2, a3, a4, a5, a6, a7⟩ := g2
    exact ⟨(ex e1).trans a1, (ex e2).trans a2, (ex e3).trans a3, (ex e4).trans a4, (ex e5).trans a5, (ex e6).trans a6, (ex e7).trans a7⟩
end RL