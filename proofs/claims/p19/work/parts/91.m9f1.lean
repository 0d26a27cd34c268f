theorem dX9_leadsTo_0 : decode cX9_leadsTo 0 = .ok (.iconst 0, 1) := by decide +kernel
theorem dX9_leadsTo_1 : decode cX9_leadsTo 1 = .ok (.istore 5, 2) := by decide +kernel
theorem dX9_leadsTo_10 : decode cX9_leadsTo 10 = .ok (.getfield 16, 3) := by decide +kernel
theorem dX9_leadsTo_102 : decode cX9_leadsTo 102 = .ok (.bipush 12, 2) := by decide +kernel
theorem dX9_leadsTo_104 : decode cX9_leadsTo 104 = .ok (.iload_n 1, 1) := by decide +kernel
theorem dX9_leadsTo_105 : decode cX9_leadsTo 105 = .ok (.imul, 1) := by decide +kernel
theorem dX9_leadsTo_106 : decode cX9_leadsTo 106 = .ok (.iload 5, 2) := by decide +kernel
theorem dX9_leadsTo_108 : decode cX9_leadsTo 108 = .ok (.iadd, 1) := by decide +kernel
theorem dX9_leadsTo_109 : decode cX9_leadsTo 109 = .ok (.iaload, 1) := by decide +kernel
theorem dX9_leadsTo_110 : decode cX9_leadsTo 110 = .ok (.iadd, 1) := by decide +kernel
theorem dX9_leadsTo_111 : decode cX9_leadsTo 111 = .ok (.iaload, 1) := by decide +kernel
theorem dX9_leadsTo_112 : decode cX9_leadsTo 112 = .ok (.istore 7, 2) := by decide +kernel
theorem dX9_leadsTo_114 : decode cX9_leadsTo 114 = .ok (.aload_n 0, 1) := by decide +kernel
theorem dX9_leadsTo_115 : decode cX9_leadsTo 115 = .ok (.getfield 37, 3) := by decide +kernel
theorem dX9_leadsTo_118 : decode cX9_leadsTo 118 = .ok (.bipush 72, 2) := by decide +kernel
theorem dX9_leadsTo_120 : decode cX9_leadsTo 120 = .ok (.bipush 12, 2) := by decide +kernel
theorem dX9_leadsTo_122 : decode cX9_leadsTo 122 = .ok (.iload_n 1, 1) := by decide +kernel
theorem dX9_leadsTo_123 : decode cX9_leadsTo 123 = .ok (.imul, 1) := by decide +kernel
theorem dX9_leadsTo_124 : decode cX9_leadsTo 124 = .ok (.iadd, 1) := by decide +kernel
theorem dX9_leadsTo_125 : decode cX9_leadsTo 125 = .ok (.iload 6, 2) := by decide +kernel
theorem dX9_leadsTo_127 : decode cX9_leadsTo 127 = .ok (.iadd, 1) := by decide +kernel
theorem dX9_leadsTo_128 : decode cX9_leadsTo 128 = .ok (.iload 7, 2) := by decide +kernel
theorem dX9_leadsTo_13 : decode cX9_leadsTo 13 = .ok (.bipush 12, 2) := by decide +kernel
theorem dX9_leadsTo_130 : decode cX9_leadsTo 130 = .ok (.iload 6, 2) := by decide +kernel
theorem dX9_leadsTo_132 : decode cX9_leadsTo 132 = .ok (.isub, 1) := by decide +kernel
theorem dX9_leadsTo_133 : decode cX9_leadsTo 133 = .ok (.iconst 1, 1) := by decide +kernel
theorem dX9_leadsTo_134 : decode cX9_leadsTo 134 = .ok (.isub, 1) := by decide +kernel
theorem dX9_leadsTo_135 : decode cX9_leadsTo 135 = .ok (.iastore, 1) := by decide +kernel
theorem dX9_leadsTo_136 : decode cX9_leadsTo 136 = .ok (.iinc 5 1, 3) := by decide +kernel
theorem dX9_leadsTo_139 : decode cX9_leadsTo 139 = .ok (.goto (-136), 3) := by decide +kernel
theorem dX9_leadsTo_142 : decode cX9_leadsTo 142 = .ok (.return_, 1) := by decide +kernel
theorem dX9_leadsTo_15 : decode cX9_leadsTo 15 = .ok (.iload_n 1, 1) := by decide +kernel
theorem dX9_leadsTo_16 : decode cX9_leadsTo 16 = .ok (.imul, 1) := by decide +kernel
theorem dX9_leadsTo_17 : decode cX9_leadsTo 17 = .ok (.iload 5, 2) := by decide +kernel
theorem dX9_leadsTo_19 : decode cX9_leadsTo 19 = .ok (.iadd, 1) := by decide +kernel
theorem dX9_leadsTo_20 : decode cX9_leadsTo 20 = .ok (.iaload, 1) := by decide +kernel
theorem dX9_leadsTo_21 : decode cX9_leadsTo 21 = .ok (.bipush 8, 2) := by decide +kernel
theorem dX9_leadsTo_23 : decode cX9_leadsTo 23 = .ok (.if_icmp .ne 113, 3) := by decide +kernel
theorem dX9_leadsTo_26 : decode cX9_leadsTo 26 = .ok (.iload_n 3, 1) := by decide +kernel
theorem dX9_leadsTo_27 : decode cX9_leadsTo 27 = .ok (.iload 4, 2) := by decide +kernel
theorem dX9_leadsTo_29 : decode cX9_leadsTo 29 = .ok (.bipush 10, 2) := by decide +kernel
theorem dX9_leadsTo_3 : decode cX9_leadsTo 3 = .ok (.iload 5, 2) := by decide +kernel
theorem dX9_leadsTo_31 : decode cX9_leadsTo 31 = .ok (.iload_n 1, 1) := by decide +kernel
theorem dX9_leadsTo_32 : decode cX9_leadsTo 32 = .ok (.imul, 1) := by decide +kernel
theorem dX9_leadsTo_33 : decode cX9_leadsTo 33 = .ok (.iload 5, 2) := by decide +kernel
theorem dX9_leadsTo_35 : decode cX9_leadsTo 35 = .ok (.iadd, 1) := by decide +kernel
theorem dX9_leadsTo_36 : decode cX9_leadsTo 36 = .ok (.invokestatic 384, 3) := by decide +kernel
theorem dX9_leadsTo_39 : decode cX9_leadsTo 39 = .ok (.ifCond .eq 20, 3) := by decide +kernel
theorem dX9_leadsTo_42 : decode cX9_leadsTo 42 = .ok (.iload 5, 2) := by decide +kernel
theorem dX9_leadsTo_44 : decode cX9_leadsTo 44 = .ok (.ifCond .le 15, 3) := by decide +kernel
theorem dX9_leadsTo_47 : decode cX9_leadsTo 47 = .ok (.aload_n 0, 1) := by decide +kernel
theorem dX9_leadsTo_48 : decode cX9_leadsTo 48 = .ok (.getfield 113, 3) := by decide +kernel
theorem dX9_leadsTo_5 : decode cX9_leadsTo 5 = .ok (.iload_n 2, 1) := by decide +kernel
theorem dX9_leadsTo_51 : decode cX9_leadsTo 51 = .ok (.iload 5, 2) := by decide +kernel
theorem dX9_leadsTo_53 : decode cX9_leadsTo 53 = .ok (.iaload, 1) := by decide +kernel
theorem dX9_leadsTo_54 : decode cX9_leadsTo 54 = .ok (.iconst 1, 1) := by decide +kernel
theorem dX9_leadsTo_55 : decode cX9_leadsTo 55 = .ok (.iadd, 1) := by decide +kernel
theorem dX9_leadsTo_56 : decode cX9_leadsTo 56 = .ok (.goto 10, 3) := by decide +kernel
theorem dX9_leadsTo_59 : decode cX9_leadsTo 59 = .ok (.aload_n 0, 1) := by decide +kernel
theorem dX9_leadsTo_6 : decode cX9_leadsTo 6 = .ok (.if_icmp .ge 136, 3) := by decide +kernel
theorem dX9_leadsTo_60 : decode cX9_leadsTo 60 = .ok (.getfield 113, 3) := by decide +kernel
theorem dX9_leadsTo_63 : decode cX9_leadsTo 63 = .ok (.iload 5, 2) := by decide +kernel
theorem dX9_leadsTo_65 : decode cX9_leadsTo 65 = .ok (.iaload, 1) := by decide +kernel
theorem dX9_leadsTo_66 : decode cX9_leadsTo 66 = .ok (.istore 6, 2) := by decide +kernel
theorem dX9_leadsTo_68 : decode cX9_leadsTo 68 = .ok (.aload_n 0, 1) := by decide +kernel
theorem dX9_leadsTo_69 : decode cX9_leadsTo 69 = .ok (.getfield 37, 3) := by decide +kernel
theorem dX9_leadsTo_72 : decode cX9_leadsTo 72 = .ok (.bipush 12, 2) := by decide +kernel
theorem dX9_leadsTo_74 : decode cX9_leadsTo 74 = .ok (.iload_n 1, 1) := by decide +kernel
theorem dX9_leadsTo_75 : decode cX9_leadsTo 75 = .ok (.imul, 1) := by decide +kernel
theorem dX9_leadsTo_76 : decode cX9_leadsTo 76 = .ok (.iload 5, 2) := by decide +kernel
theorem dX9_leadsTo_78 : decode cX9_leadsTo 78 = .ok (.iadd, 1) := by decide +kernel
theorem dX9_leadsTo_79 : decode cX9_leadsTo 79 = .ok (.iaload, 1) := by decide +kernel
theorem dX9_leadsTo_80 : decode cX9_leadsTo 80 = .ok (.ifCond .ne 10, 3) := by decide +kernel
theorem dX9_leadsTo_83 : decode cX9_leadsTo 83 = .ok (.iload 6, 2) := by decide +kernel
theorem dX9_leadsTo_85 : decode cX9_leadsTo 85 = .ok (.iconst 1, 1) := by decide +kernel
theorem dX9_leadsTo_86 : decode cX9_leadsTo 86 = .ok (.iadd, 1) := by decide +kernel
theorem dX9_leadsTo_87 : decode cX9_leadsTo 87 = .ok (.goto 25, 3) := by decide +kernel
theorem dX9_leadsTo_9 : decode cX9_leadsTo 9 = .ok (.aload_n 0, 1) := by decide +kernel
theorem dX9_leadsTo_90 : decode cX9_leadsTo 90 = .ok (.aload_n 0, 1) := by decide +kernel
theorem dX9_leadsTo_91 : decode cX9_leadsTo 91 = .ok (.getfield 113, 3) := by decide +kernel
theorem dX9_leadsTo_94 : decode cX9_leadsTo 94 = .ok (.iload 5, 2) := by decide +kernel
theorem dX9_leadsTo_96 : decode cX9_leadsTo 96 = .ok (.iconst 1, 1) := by decide +kernel
theorem dX9_leadsTo_97 : decode cX9_leadsTo 97 = .ok (.iadd, 1) := by decide +kernel
theorem dX9_leadsTo_98 : decode cX9_leadsTo 98 = .ok (.aload_n 0, 1) := by decide +kernel
theorem dX9_leadsTo_99 : decode cX9_leadsTo 99 = .ok (.getfield 37, 3) := by decide +kernel
theorem gI9_ext {q p p' : Nat} {cl rg u1 u2 cl' rg' u1' u2' : Nat → Int32} (h : gI9 q cl rg u1 u2 p) (e1 : cl' p' = cl p) (e2 : rg' p' = rg p) (e3 : u1' p' = u1 p) (e4 : u2' p' = u2 p) : gI9 q cl' rg' u1' u2' p' := by
  unfold gI9 at h ⊢
  rw [e1, e2, e3, e4]
  exact h
theorem gPk_ext {kd cl rg u1 u2 sk kd' cl' rg' u1' u2' sk' : Nat → Int32} {b m : Nat} (h : gPk kd cl rg u1 u2 sk b m) (e0 : ∀ j, j < m → kd' (b + j) = kd (b + j)) (e1 : ∀ j, j < m → cl' (b + j) = cl (b + j)) (e2 : ∀ j, j < m → rg' (b + j) = rg (b + j)) (e3 : ∀ j, j < m → u1' (b + j) = u1 (b + j)) (e4 : ∀ j, j < m → u2' (b + j) = u2 (b + j)) (e5 : ∀ j, j < m → sk' (b + j) = sk (b + j)) : gPk kd' cl' rg' u1' u2' sk' b m := by
  obtain ⟨h1, h2, h3⟩ := h
  refine ⟨h1, by rw [gCn_ext e0]; exact h2, fun i hi => ?_⟩
  obtain ⟨q, a, b, c, d⟩ := h3 i hi
  refine ⟨q, a, by rw [e0 i hi]; exact b, gI9_ext c (e1 i hi) (e2 i hi) (e3 i hi) (e4 i hi), fun e => ?_⟩
  obtain ⟨y, y1, y2, y3⟩ := d e
  exact ⟨y, y1, by rw [e5 i hi]; exact y2, y3⟩
theorem gPk_0 {kd cl rg u1 u2 sk : Nat → Int32} {b : Nat} : gPk kd cl rg u1 u2 sk b 0 := ⟨by omega, Nat.zero_le _, fun i h => absurd h (Nat.not_lt_zero i)⟩
theorem gP9_0 {C Mn : Nat → Nat} {kd cl rg u1 u2 sk : Nat → Int32} {k : Nat} (h : gP9 C Mn kd cl rg u1 u2 sk 0) (hk : k < C 0) (h3 : k < 3) : gPk kd cl rg u1 u2 sk (12 * k) (Mn k) := by
  have := h k hk h3
  rw [show (36 * 0) + (12 * k) = 12 * k by omega, show (3 * 0) + k = k by omega] at this
  exact this
theorem gP9_ext {C Mn C' Mn' : Nat → Nat} {kd cl rg u1 u2 sk kd' cl' rg' u1' u2' sk' : Nat → Int32} (h : gP9 C Mn kd cl rg u1 u2 sk 0) (hC : C' 0 = C 0) (hM : ∀ j, j < 6 → Mn' j = Mn j) (hM6 : ∀ j, j < 3 → Mn j ≤ 6) (e0 : ∀ j, j < 72 → kd' j = kd j) (e1 : ∀ j, j < 72 → cl' j = cl j) (e2 : ∀ j, j < 72 → rg' j = rg j) (e3 : ∀ j, j < 72 → u1' j = u1 j) (e4 : ∀ j, j < 72 → u2' j = u2 j) (e5 : ∀ j, j < 72 → sk' j = sk j) : gP9 C' Mn' kd' cl' rg' u1' u2' sk' 0 := by
  intro k hk h3
  rw [hC] at hk
  have hm := hM6 k h3
  have hb : Mn ((3 * 0) + k) = Mn k := by congr 1; omega
  rw [show Mn' ((3 * 0) + k) = Mn ((3 * 0) + k) from hM _ (by omega)]
  exact gPk_ext (h k hk h3) (fun j hj => e0 _ (by omega)) (fun j hj => e1 _ (by omega)) (fun j hj => e2 _ (by omega)) (fun j hj => e3 _ (by omega)) (fun j hj => e4 _ (by omega)) (fun j hj => e5 _ (by omega))
def gB9 (C Mn : Nat → Nat) (kd cl rg u1 u2 sk : Nat → Int32) : Prop := (∀ j, j < 3 → C j ≤ 3) ∧ (∀ j, j < 9 → Mn j ≤ 12) ∧ (∀ j, j < 3 → Mn j ≤ 6) ∧ gP9 C Mn kd cl rg u1 u2 sk 0
def gSm (kd kd9 : Nat → Int32) (C C9 Mn Mn9 : Nat → Nat) : Prop := C9 0 = C 0 ∧ (∀ j, j < 36 → kd9 j = kd j) ∧ (∀ j, j < 3 → Mn9 j = Mn j)
/-- where INS i comes to lie -/
def gOw (x y : Int32) (k : Nat) (mv : Nat → Nat) (i : Nat) : Nat := if (x = nI ((10 * k) + i) ∨ y = nI ((10 * k) + i)) ∧ 0 < i then mv i + 1 else mv i
theorem gOw_le {x y : Int32} {k i : Nat} {mv : Nat → Nat} : mv i ≤ gOw x y k mv i ∧ gOw x y k mv i ≤ mv i + 1 := by
  unfold gOw
  split <;> omega
theorem gOw_ext {x y : Int32} {k i : Nat} {mv mv' : Nat → Nat} (h : mv' i = mv i) : gOw x y k mv' i = gOw x y k mv i := by
  unfold gOw
  rw [h]
def gMvd (x y : Int32) (k n had : Nat) (mv : Nat → Nat) : Prop := mv 0 = 0 ∧ (∀ i, i < had → mv (i + 1) = gOw x y k mv i + 1) ∧ mv had = n
theorem gMvd_0 {x y : Int32} {k : Nat} {mv : Nat → Nat} : gMvd x y k 0 0 (updN mv 0 0) := ⟨updN_s, fun i h => absurd h (Nat.not_lt_zero i), updN_s⟩
theorem gMvd_s {x y : Int32} {k n i n' : Nat} {mv : Nat → Nat} (h : gMvd x y k n i (updN mv i n)) (hn : n' = gOw x y k (updN mv i n) i + 1) : gMvd x y k n' (i + 1) (updN (updN mv i n) (i + 1) n') := by
  obtain ⟨h1, h2, h3⟩ := h
  refine ⟨by rw [updN_n (by omega)]; exact h1, fun j hj => ?_, updN_s⟩
  by_cases e : j = i
  · subst e
    rw [updN_s, gOw_ext (mv := updN mv j n) (updN_n (by omega))]
    exact hn
  · rw [updN_n (by omega), gOw_ext (mv := updN mv i n) (updN_n (by omega))]
    exact h2 j (by omega)
theorem gMvd_mono {x y : Int32} {k n had : Nat} {mv : Nat → Nat} (h : gMvd x y k n had mv) : ∀ {i j : Nat}, i ≤ j → j ≤ had → mv i ≤ mv j := by
  intro i j hij
  induction j with
  | zero => intro _; rw [Nat.le_zero.mp hij]; exact Nat.le_refl _
  | succ j ih =>
    intro hj
    by_cases e : i = j + 1
    · subst e; exact Nat.le_refl _
    · have h1 := ih (by omega) (by omega)
      have h2 := h.2.1 j (by omega)
      have h3 := (gOw_le (x := x) (y := y) (k := k) (i := j) (mv := mv)).1
      omega
theorem gMvd_two {x y : Int32} {k n had : Nat} {mv : Nat → Nat} (h : gMvd x y k n had mv) : ∀ {i : Nat}, i ≤ had → mv i ≤ 2 * i := by
  intro i
  induction i with
  | zero => intro _; rw [h.1]; exact Nat.le_refl _
  | succ i ih =>
    intro hi
    have h1 := ih (by omega)
    have h2 := h.2.1 i (by omega)
    have h3 := (gOw_le (x := x) (y := y) (k := k) (i := i) (mv := mv)).2
    omega
theorem gOw_lt {x y : Int32} {k n had i j : Nat} {mv : Nat → Nat} (h : gMvd x y k n had mv) (hij : i < j) (hj : j < had) : gOw x y k mv i < gOw x y k mv j := by
  have h1 := h.2.1 i (by omega)
  have h2 := gMvd_mono h (show i + 1 ≤ j by omega) (by omega)
  have h3 := (gOw_le (x := x) (y := y) (k := k) (i := j) (mv := mv)).1
  omega
def gLt (kd sk : Nat → Int32) (x y : Int32) (k : Nat) (mv : Nat → Nat) (n i : Nat) : Prop := ∀ j, j < i → kd ((12 * k) + j) = 8 → ∃ u, u ≤ 11 ∧ sk ((72 + (12 * k)) + gOw x y k mv j) = nI u ∧ gOw x y k mv j + 1 + u ≤ n
theorem gLt_s {kd sk : Nat → Int32} {x y : Int32} {k n i had o t a : Nat} {mv : Nat → Nat} (h : gLt kd sk x y k mv n i) (hm : gMvd x y k n had mv) (hi : i < had) (ho : gOw x y k mv i = o) (ha : a = (72 + (12 * k)) + o) (ht : o + 1 ≤ t) (htn : t ≤ n) (hn : n ≤ 12) : gLt kd (upd sk a (nI (t - o - 1))) x y k mv n (i + 1) := by
  subst ho
  subst ha
  intro j hj hk
  by_cases e : j = i
  · subst e
    exact ⟨_, by omega, pk_us, by omega⟩
  · have := gOw_lt hm (show j < i by omega) hi
    rw [pk_un (by omega)]
    exact h j (by omega) hk
theorem gLt_n {kd sk : Nat → Int32} {x y : Int32} {k n i : Nat} {mv : Nat → Nat} (h : gLt kd sk x y k mv n i) (hk : ¬ kd ((12 * k) + i) = 8) : gLt kd sk x y k mv n (i + 1) := by
  intro j hj h8
  by_cases e : j = i
  · subst e; exact absurd h8 hk
  · exact h j (by omega) h8
def wsP_e_isPut9 : List Cond := .code yX9_isPut cX9_isPut 3 (some .boolean) :: (([]) ++ [])
theorem gW_e_isPut9 : wsP_e_isPut9.all goodWord = true := by unfold wsP_e_isPut9; exact gw_mk (by decide +kernel) rfl
set_option maxHeartbeats 4000000 in
set_option maxRecDepth 100000 in
theorem e_isPut9 (l : Launch) (D : va_G) (cI cB cZ : ClassId) (x : Int32) (y : Int32) (u : Int32)  : gMi l yX9_isPut wsP_e_isPut9 ({ frames := 0, cells := 0, slots := 0, locals := 0 }) D cI cB cZ [] [.int x, .int y, .int u] [] (fun r9 w9 => r9 = (if x = u ∨ y = u then 1 else 0) ∧ w9 = []) := by
  refine gMi.of (cc := cX9_isPut) (maxL := 3) (ret := (some .boolean)) (by decide) rfl (Nat.le_of_ble_eq_true rfl) (fun p e s m below meth c A ls hx hb hr hlk hml hts hown hin hA hP hK hD hS hN hl => ?_)
  have hown : s.vm.findClass RX9 = some m.cls := hown
  have hl : lv_has ls 3 [(0, .int x), (1, .int y), (2, .int u)] := hl
  refine lv_iload_n hx hb dX9_isPut_0 rfl (lv_at hl 0 rfl) ?_
  refine lv_iload_n hx hb dX9_isPut_1 rfl (lv_at hl 2 rfl) ?_
  refine lv_icmp_eq (tgt := 10) hx hb dX9_isPut_2 (by decide) (fun c_1 => ?_) (fun c_1 => ?_)
  · refine lv_iconst (v := 1) hx hb dX9_isPut_10 (by decide) ?_
    refine lv_goto (tgt := 15) hx hb dX9_isPut_11 (by decide) ?_
    exact gx_zret (w' := []) hx hb hr hlk hK hP hD hS (Nat.le_of_ble_eq_true rfl) (Nat.le_of_ble_eq_true rfl) dX9_isPut_15 rfl ⟨(by first | exact (if_pos (Or.inl c_1)).symm | exact (if_pos (Or.inr True.intro)).symm | exact (if_neg (fun h => h.elim c_1 True.intro)).symm), rfl⟩
  · refine lv_iload_n hx hb dX9_isPut_5 rfl (lv_at hl 1 rfl) ?_
    refine lv_iload_n hx hb dX9_isPut_6 rfl (lv_at hl 2 rfl) ?_
    refine lv_icmp_ne (tgt := 14) hx hb dX9_isPut_7 (by decide) (fun c_2 => ?_) (fun c_2 => ?_)
    · refine lv_iconst (v := 0) hx hb dX9_isPut_14 (by decide) ?_
      exact gx_zret (w' := []) hx hb hr hlk hK hP hD hS (Nat.le_of_ble_eq_true rfl) (Nat.le_of_ble_eq_true rfl) dX9_isPut_15 rfl ⟨(by first | exact (if_pos (Or.inl c_1)).symm | exact (if_pos (Or.inr c_2)).symm | exact (if_neg (fun h => h.elim c_1 c_2)).symm), rfl⟩
    · refine lv_iconst (v := 1) hx hb dX9_isPut_10 (by decide) ?_
      refine lv_goto (tgt := 15) hx hb dX9_isPut_11 (by decide) ?_
      exact gx_zret (w' := []) hx hb hr hlk hK hP hD hS (Nat.le_of_ble_eq_true rfl) (Nat.le_of_ble_eq_true rfl) dX9_isPut_15 rfl ⟨(by first | exact (if_pos (Or.inl c_1)).symm | exact (if_pos (Or.inr c_2)).symm | exact (if_neg (fun h => h.elim c_1 c_2)).symm), rfl⟩
def wsP_c_leadsTo9 : List Cond := .code yX9_leadsTo cX9_leadsTo 8 none :: (([.fieldLink RX9 16 "LitmusHallModel" "kind" "[I", .methodLink RX9 384 yX9_isPut, .static yX9_isPut, .initialized yX9_isPut.cls, .fieldLink RX9 113 "LitmusHallModel" "moved" "[I", .fieldLink RX9 37 "LitmusHallModel" "skip" "[I"] ++ wsX90) ++ (wsP_e_isPut9 ++ []))
theorem gW_c_leadsTo9 : wsP_c_leadsTo9.all goodWord = true := by unfold wsP_c_leadsTo9; exact gw_mk (by decide +kernel) (gw_app gW_e_isPut9 rfl)
set_option maxRecDepth 20000 in
theorem gP_c_leadsTo9__e_isPut9 : GoodIn wsP_c_leadsTo9 (va_wsS RX9 384 yX9_isPut wsP_e_isPut9) := gw_in (pre := [.methodLink RX9 384 yX9_isPut, .static yX9_isPut, .initialized yX9_isPut.cls]) (by decide +kernel) (fun _ h => List.mem_cons_of_mem _ (List.mem_append_right _ (List.mem_append_left _ h))) gW_e_isPut9
set_option maxHeartbeats 4000000 in
set_option maxRecDepth 100000 in
theorem c_leadsTo9 (l : Launch) (D : va_G) (cI cB cZ : ClassId) (h0 : Nat) (a2 : Nat) (a9 : Nat) (a51 : Nat) (v0 : Value) (v1 : Value) (v3 : Value) (v4 : Value) (v5 : Value) (v6 : Value) (v7 : Value) (v8 : Value) (v10 : Value) (v11 : Value) (v12 : Value) (v13 : Value) (v14 : Value) (v15 : Value) (v16 : Value) (v17 : Value) (v18 : Value) (v19 : Value) (v20 : Value) (v21 : Value) (v22 : Value) (v23 : Value) (v24 : Value) (v25 : Value) (v26 : Value) (v27 : Value) (v28 : Value) (v29 : Value) (v30 : Value) (v31 : Value) (v32 : Value) (v33 : Value) (v34 : Value) (v35 : Value) (v36 : Value) (v37 : Value) (v38 : Value) (v39 : Value) (v40 : Value) (v41 : Value) (v42 : Value) (v43 : Value) (v44 : Value) (v45 : Value) (v46 : Value) (v47 : Value) (v48 : Value) (v49 : Value) (v50 : Value) (kd : Nat → Int32) (sk : Nat → Int32) (mv : Nat → Nat) (k : Nat) (hd : Nat) (x : Int32) (y : Int32) (n : Nat) (hk : k < 3) (hd6 : hd ≤ 6) (hm : gMvd x y k n hd mv) (hIF : ∀ i, i < hd → kd ((12 * k) + i) = 8 → ∃ u, u ≤ 11 ∧ sk ((12 * k) + i) = nI u ∧ i + 1 + u ≤ hd) : gMv l yX9_leadsTo wsP_c_leadsTo9 ({ frames := 1, cells := 0, slots := 0, locals := 22 }) D cI cB cZ [] [.ref h0, .int (nI k), .int (nI hd), .int x, .int y] [(h0, .inr (9, [v0, v1, .ref a2, v3, v4, v5, v6, v7, v8, .ref a9, v10, v11, v12, v13, v14, v15, v16, v17, v18, v19, v20, v21, v22, v23, v24, v25, v26, v27, v28, v29, v30, v31, v32, v33, v34, v35, v36, v37, v38, v39, v40, v41, v42, v43, v44, v45, v46, v47, v48, v49, v50, .ref a51])), (a2, .inl (cI, 108, .inl kd)), (a9, .inl (cI, 108, .inl sk)), (a51, .inl (cI, 13, .inl (fun j => nI (mv j))))] (fun w9 => ∃ sk9 : Nat → Int32, (gFm sk9 sk (72 + (12 * k)) 12) ∧ (gLt kd sk9 x y k mv n hd) ∧ w9 = [(h0, .inr (9, [v0, v1, .ref a2, v3, v4, v5, v6, v7, v8, .ref a9, v10, v11, v12, v13, v14, v15, v16, v17, v18, v19, v20, v21, v22, v23, v24, v25, v26, v27, v28, v29, v30, v31, v32, v33, v34, v35, v36, v37, v38, v39, v40, v41, v42, v43, v44, v45, v46, v47, v48, v49, v50, .ref a51])), (a2, .inl (cI, 108, .inl kd)), (a9, .inl (cI, 108, .inl sk9)), (a51, .inl (cI, 13, .inl (fun j => nI (mv j))))]) := by
  refine gMv.of (cc := cX9_leadsTo) (maxL := 8) (ret := none) (by decide) rfl (Nat.le_of_ble_eq_true rfl) (fun p e s m below meth c A ls hx hb hr hlk hml hts hown hin hA hP hK hD hS hN hl => ?_)
  have hown : s.vm.findClass RX9 = some m.cls := hown
  have hl : lv_has ls 8 [(0, .ref h0), (1, .int (nI k)), (2, .int (nI hd)), (3, .int x), (4, .int y)] := hl
  have hm12 := gMvd_two hm (Nat.le_refl _)
  rw [hm.2.2] at hm12
  refine lv_iconst (v := 0) hx hb dX9_leadsTo_0 (by decide) ?_
  refine lv_istore (lv' := [(5, .int 0), (0, .ref h0), (1, .int (nI k)), (2, .int (nI hd)), (3, .int x), (4, .int y)]) hx hb dX9_leadsTo_1 hl (by decide) rfl (fun ls hl => ?_)
  refine gy_loop0 (I := fun (x9 : Nat × (Nat → Int32)) H locs ls => (x9.1 ≤ hd) ∧ (gFm x9.2 sk (72 + (12 * k)) 12) ∧ (gLt kd x9.2 x y k mv n x9.1) ∧ va_P D vwCl [(h0, .inr (9, [v0, v1, .ref a2, v3, v4, v5, v6, v7, v8, .ref a9, v10, v11, v12, v13, v14, v15, v16, v17, v18, v19, v20, v21, v22, v23, v24, v25, v26, v27, v28, v29, v30, v31, v32, v33, v34, v35, v36, v37, v38, v39, v40, v41, v42, v43, v44, v45, v46, v47, v48, v49, v50, .ref a51])), (a2, .inl (cI, 108, .inl kd)), (a9, .inl (cI, 108, .inl x9.2)), (a51, .inl (cI, 13, .inl (fun j => nI (mv j))))] H ∧ va_D A [(h0, .inr (9, [v0, v1, .ref a2, v3, v4, v5, v6, v7, v8, .ref a9, v10, v11, v12, v13, v14, v15, v16, v17, v18, v19, v20, v21, v22, v23, v24, v25, v26, v27, v28, v29, v30, v31, v32, v33, v34, v35, v36, v37, v38, v39, v40, v41, v42, v43, v44, v45, v46, v47, v48, v49, v50, .ref a51])), (a2, .inl (cI, 108, .inl kd)), (a9, .inl (cI, 108, .inl x9.2)), (a51, .inl (cI, 13, .inl (fun j => nI (mv j))))] ∧ va_S A s.heap H locs ∧ lv_has ls 8 [(5, .int (nI x9.1)), (0, .ref h0), (1, .int (nI k)), (2, .int (nI hd)), (3, .int x), (4, .int y)]) (μ := fun (x9 : Nat × (Nat → Int32)) => hd - x9.1) (fun x9 H locs ls hI ih3 => ?_) (0, sk) ⟨(by show 0 ≤ hd; exact Nat.zero_le _), gFm_0, (fun j h => absurd h (Nat.not_lt_zero j)), hP, hD, hS, lv_sub hl [0, 1, 2, 3, 4, 5] rfl⟩
  obtain ⟨i, sk1⟩ := x9
  obtain ⟨hi3_0, hi3_1, hi3_2, hP, hD, hS, hl⟩ := hI
  have hi3_0 : i ≤ hd := hi3_0
  have hi3_1 : gFm sk1 sk (72 + (12 * k)) 12 := hi3_1
  have hi3_2 : gLt kd sk1 x y k mv n i := hi3_2
  have hP : va_P D vwCl [(h0, .inr (9, [v0, v1, .ref a2, v3, v4, v5, v6, v7, v8, .ref a9, v10, v11, v12, v13, v14, v15, v16, v17, v18, v19, v20, v21, v22, v23, v24, v25, v26, v27, v28, v29, v30, v31, v32, v33, v34, v35, v36, v37, v38, v39, v40, v41, v42, v43, v44, v45, v46, v47, v48, v49, v50, .ref a51])), (a2, .inl (cI, 108, .inl kd)), (a9, .inl (cI, 108, .inl sk1)), (a51, .inl (cI, 13, .inl (fun j => nI (mv j))))] H := hP
  have hD : va_D A [(h0, .inr (9, [v0, v1, .ref a2, v3, v4, v5, v6, v7, v8, .ref a9, v10, v11, v12, v13, v14, v15, v16, v17, v18, v19, v20, v21, v22, v23, v24, v25, v26, v27, v28, v29, v30, v31, v32, v33, v34, v35, v36, v37, v38, v39, v40, v41, v42, v43, v44, v45, v46, v47, v48, v49, v50, .ref a51])), (a2, .inl (cI, 108, .inl kd)), (a9, .inl (cI, 108, .inl sk1)), (a51, .inl (cI, 13, .inl (fun j => nI (mv j))))] := hD
  have hS : va_S A s.heap H locs := hS
  have hl : lv_has ls 8 [(5, .int (nI i)), (0, .ref h0), (1, .int (nI k)), (2, .int (nI hd)), (3, .int x), (4, .int y)] := hl
  refine lv_iload hx hb dX9_leadsTo_3 (lv_at hl 0 rfl) ?_
  refine lv_iload_n hx hb dX9_leadsTo_5 rfl (lv_at hl 3 rfl) ?_
  refine gy_ge (a := i) (b := hd) (tgt := 142) hx hb (by omega) (by omega) dX9_leadsTo_6 (by decide) (fun c_1 => ?_) (fun c_1 => ?_)
  · exact gx_vret (w' := [(h0, .inr (9, [v0, v1, .ref a2, v3, v4, v5, v6, v7, v8, .ref a9, v10, v11, v12, v13, v14, v15, v16, v17, v18, v19, v20, v21, v22, v23, v24, v25, v26, v27, v28, v29, v30, v31, v32, v33, v34, v35, v36, v37, v38, v39, v40, v41, v42, v43, v44, v45, v46, v47, v48, v49, v50, .ref a51])), (a2, .inl (cI, 108, .inl kd)), (a9, .inl (cI, 108, .inl sk1)), (a51, .inl (cI, 13, .inl (fun j => nI (mv j))))]) hx hb hr hlk hK hP hD hS (Nat.le_of_ble_eq_true rfl) (Nat.le_of_ble_eq_true rfl) dX9_leadsTo_142 ⟨sk1, hi3_1, ((show i = hd by omega) ▸ hi3_2), rfl⟩
  · refine lv_aload_n hx hb dX9_leadsTo_9 rfl (lv_at hl 1 rfl) ?_
    refine va_get (D := D) (ci := 9) (v := .ref a2) (C := RX9) (T := TX9) (N := 52) hx hb hts (fun _ h => List.mem_cons_of_mem _ (List.mem_append_left _ (List.mem_append_right _ h))) hown hK hP 0 rfl rfl 2 (by decide) (hts (.fieldLink RX9 16 "LitmusHallModel" "kind" "[I") (by decide +kernel)) (fun _ h9 => h9) rfl dX9_leadsTo_10 ?_
    refine lv_bipush (v := 12) hx hb dX9_leadsTo_13 (by decide) ?_
    refine lv_iload_n hx hb dX9_leadsTo_15 rfl (lv_at hl 2 rfl) ?_
    refine lv_imul hx hb dX9_leadsTo_16 ?_
    refine gx_top (y := nI (12 * k)) (pk_mul 12 k) ?_
    refine lv_iload hx hb dX9_leadsTo_17 (lv_at hl 0 rfl) ?_
    refine lv_iadd hx hb dX9_leadsTo_19 ?_
    refine gx_top (y := nI ((12 * k) + i)) (nI_add (12 * k) i) ?_
    refine gy_ild (i := ((12 * k) + i)) hx hb hK hP 1 rfl (by omega) (by omega) dX9_leadsTo_20 ?_
    refine lv_bipush (v := 8) hx hb dX9_leadsTo_21 (by decide) ?_
    refine lv_icmp_ne (tgt := 136) hx hb dX9_leadsTo_23 (by decide) (fun c_2 => ?_) (fun c_2 => ?_)
    · refine lv_iinc (v := nI (i + 1)) (lv' := [(5, .int (nI (i + 1))), (0, .ref h0), (1, .int (nI k)), (2, .int (nI hd)), (3, .int x), (4, .int y)]) hx hb dX9_leadsTo_136 hl (k := 0) rfl (nI_add i 1) (by decide) rfl (fun ls hl => ?_)
      refine lv_goto (tgt := 3) hx hb dX9_leadsTo_139 (by decide) ?_
      exact ih3 ((i + 1), sk1) H locs ls ⟨(by show (i + 1) ≤ hd; omega), (by first | exact hi3_1 | exact gFm_u hi3_1 (by omega) (by omega)), (by first | exact gLt_n hi3_2 c_2 | exact gLt_s hi3_2 hm hil how rfl hto htn (by omega)), hP, hD, hS, lv_sub hl [0, 1, 2, 3, 4, 5] rfl⟩ (by show hd - (i + 1) < hd - i; omega)
    · have hil : i < hd := by omega
      obtain ⟨u, hu11, eu, hui⟩ := hIF i hil c_2
      have hmi := gMvd_two hm (show i ≤ hd by omega)
      refine lv_iload_n hx hb dX9_leadsTo_26 rfl (lv_at hl 4 rfl) ?_
      refine lv_iload hx hb dX9_leadsTo_27 (lv_at hl 5 rfl) ?_
      refine lv_bipush (v := 10) hx hb dX9_leadsTo_29 (by decide) ?_
      refine lv_iload_n hx hb dX9_leadsTo_31 rfl (lv_at hl 2 rfl) ?_
      refine lv_imul hx hb dX9_leadsTo_32 ?_
      refine gx_top (y := nI (10 * k)) (pk_mul 10 k) ?_
      refine lv_iload hx hb dX9_leadsTo_33 (lv_at hl 0 rfl) ?_
      refine lv_iadd hx hb dX9_leadsTo_35 ?_
      refine gx_top (y := nI ((10 * k) + i)) (nI_add (10 * k) i) ?_
      refine gx_goi (wc := []) (wr := [(h0, .inr (9, [v0, v1, .ref a2, v3, v4, v5, v6, v7, v8, .ref a9, v10, v11, v12, v13, v14, v15, v16, v17, v18, v19, v20, v21, v22, v23, v24, v25, v26, v27, v28, v29, v30, v31, v32, v33, v34, v35, v36, v37, v38, v39, v40, v41, v42, v43, v44, v45, v46, v47, v48, v49, v50, .ref a51])), (a2, .inl (cI, 108, .inl kd)), (a9, .inl (cI, 108, .inl sk1)), (a51, .inl (cI, 13, .inl (fun j => nI (mv j))))]) (va_runS (As := [.int x, .int y, .int (nI ((10 * k) + i))]) (rest := []) ⟨hx, hb, hml, hown, hts⟩ (e_isPut9 l D cI cB cZ x y (nI ((10 * k) + i)) _) (va_cwS 3 hts gP_c_leadsTo9__e_isPut9 rfl rfl rfl (by decide +kernel) ⟨Nat.le_of_ble_eq_true rfl, Nat.le_of_ble_eq_true rfl⟩) (gx_preS hK gN.nil hP hD [] rfl rfl) rfl rfl hl.1 rfl (lv_room (Nat.le_of_ble_eq_true rfl)) dX9_leadsTo_36 ⟨Nat.le_of_ble_eq_true rfl, Nat.le_of_ble_eq_true rfl⟩) hP hD hS hA [] [0, 1, 2, 3] rfl rfl rfl (by decide) (fun r1 w1 H locs hp hP hD hS => ?_)
      obtain ⟨h9, rfl⟩ := hp
      have h9 := h9.symm
      subst h9
      refine lv_if_eq (tgt := 59) hx hb dX9_leadsTo_39 (by decide) (fun c_3 => ?_) (fun c_3 => ?_)
      · have c_3 : ¬ (x = (nI ((10 * k) + i)) ∨ y = (nI ((10 * k) + i))) := gy_b0 c_3
        refine lv_aload_n hx hb dX9_leadsTo_59 rfl (lv_at hl 1 rfl) ?_
        refine va_get (D := D) (ci := 9) (v := .ref a51) (C := RX9) (T := TX9) (N := 52) hx hb hts (fun _ h => List.mem_cons_of_mem _ (List.mem_append_left _ (List.mem_append_right _ h))) hown hK hP 0 rfl rfl 51 (by decide) (hts (.fieldLink RX9 113 "LitmusHallModel" "moved" "[I") (by decide +kernel)) (fun _ h9 => h9) rfl dX9_leadsTo_60 ?_
        refine lv_iload hx hb dX9_leadsTo_63 (lv_at hl 0 rfl) ?_
        refine gy_ild (i := i) hx hb hK hP 3 rfl (by omega) (by omega) dX9_leadsTo_65 ?_
        refine gx_top (y := nI (mv i)) rfl ?_
        have how : gOw x y k mv i = mv i := (by unfold gOw; first | exact if_pos ⟨c_2, by omega⟩ | exact if_neg (fun h => c_3 h.1) | exact if_neg (fun h => absurd h.2 (by omega)))
        have hon := hm.2.1 i hil
        rw [how] at hon
        have ho1 := (gOw_le (x := x) (y := y) (k := k) (i := i) (mv := mv)).2
        rw [how] at ho1
        have hmu := gMvd_mono hm (show i + 1 ≤ i + 1 + u by omega) (by omega)
        have hmn := gMvd_mono hm (show i + 1 + u ≤ hd by omega) (Nat.le_refl _)
        rw [hm.2.2] at hmn
        refine lv_istore (lv' := [(6, .int (nI (mv i))), (5, .int (nI i)), (0, .ref h0), (1, .int (nI k)), (2, .int (nI hd)), (3, .int x), (4, .int y)]) hx hb dX9_leadsTo_66 hl (by decide) rfl (fun ls hl => ?_)
        refine lv_aload_n hx hb dX9_leadsTo_68 rfl (lv_at hl 2 rfl) ?_
        refine va_get (D := D) (ci := 9) (v := .ref a9) (C := RX9) (T := TX9) (N := 52) hx hb hts (fun _ h => List.mem_cons_of_mem _ (List.mem_append_left _ (List.mem_append_right _ h))) hown hK hP 0 rfl rfl 9 (by decide) (hts (.fieldLink RX9 37 "LitmusHallModel" "skip" "[I") (by decide +kernel)) (fun _ h9 => h9) rfl dX9_leadsTo_69 ?_
        refine lv_bipush (v := 12) hx hb dX9_leadsTo_72 (by decide) ?_
        refine lv_iload_n hx hb dX9_leadsTo_74 rfl (lv_at hl 3 rfl) ?_
        refine lv_imul hx hb dX9_leadsTo_75 ?_
        refine gx_top (y := nI (12 * k)) (pk_mul 12 k) ?_
        refine lv_iload hx hb dX9_leadsTo_76 (lv_at hl 1 rfl) ?_
        refine lv_iadd hx hb dX9_leadsTo_78 ?_
        refine gx_top (y := nI ((12 * k) + i)) (nI_add (12 * k) i) ?_
        refine gy_ild (i := ((12 * k) + i)) hx hb hK hP 2 rfl (by omega) (by omega) dX9_leadsTo_79 ?_
        refine gx_top (y := nI u) ((hi3_1 _ (by omega)).trans eu) ?_
        refine lv_if_ne (tgt := 90) hx hb dX9_leadsTo_80 (by decide) (fun c_4i => ?_) (fun c_4i => ?_)
        · have c_4 : u ≠ 0 := fun q9 => c_4i ((nI_eq (a := u) (b := 0) (by omega) (by decide)).mpr q9)
          refine lv_aload_n hx hb dX9_leadsTo_90 rfl (lv_at hl 2 rfl) ?_
          refine va_get (D := D) (ci := 9) (v := .ref a51) (C := RX9) (T := TX9) (N := 52) hx hb hts (fun _ h => List.mem_cons_of_mem _ (List.mem_append_left _ (List.mem_append_right _ h))) hown hK hP 0 rfl rfl 51 (by decide) (hts (.fieldLink RX9 113 "LitmusHallModel" "moved" "[I") (by decide +kernel)) (fun _ h9 => h9) rfl dX9_leadsTo_91 ?_
          refine lv_iload hx hb dX9_leadsTo_94 (lv_at hl 1 rfl) ?_
          refine lv_iconst (v := 1) hx hb dX9_leadsTo_96 (by decide) ?_
          refine lv_iadd hx hb dX9_leadsTo_97 ?_
          refine gx_top (y := nI (i + 1)) (nI_add i 1) ?_
          refine lv_aload_n hx hb dX9_leadsTo_98 rfl (lv_at hl 2 rfl) ?_
          refine va_get (D := D) (ci := 9) (v := .ref a9) (C := RX9) (T := TX9) (N := 52) hx hb hts (fun _ h => List.mem_cons_of_mem _ (List.mem_append_left _ (List.mem_append_right _ h))) hown hK hP 0 rfl rfl 9 (by decide) (hts (.fieldLink RX9 37 "LitmusHallModel" "skip" "[I") (by decide +kernel)) (fun _ h9 => h9) rfl dX9_leadsTo_99 ?_
          refine lv_bipush (v := 12) hx hb dX9_leadsTo_102 (by decide) ?_
          refine lv_iload_n hx hb dX9_leadsTo_104 rfl (lv_at hl 3 rfl) ?_
          refine lv_imul hx hb dX9_leadsTo_105 ?_
          refine gx_top (y := nI (12 * k)) (pk_mul 12 k) ?_
          refine lv_iload hx hb dX9_leadsTo_106 (lv_at hl 1 rfl) ?_
          refine lv_iadd hx hb dX9_leadsTo_108 ?_
          refine gx_top (y := nI ((12 * k) + i)) (nI_add (12 * k) i) ?_
          refine gy_ild (i := ((12 * k) + i)) hx hb hK hP 2 rfl (by omega) (by omega) dX9_leadsTo_109 ?_
          refine gx_top (y := nI u) ((hi3_1 _ (by omega)).trans eu) ?_
          refine lv_iadd hx hb dX9_leadsTo_110 ?_
          refine gx_top (y := nI ((i + 1) + u)) (nI_add (i + 1) u) ?_
          refine gy_ild (i := ((i + 1) + u)) hx hb hK hP 3 rfl (by omega) (by omega) dX9_leadsTo_111 ?_
          refine gx_top (y := nI (mv ((i + 1) + u))) rfl ?_
          have hto : mv i + 1 ≤ mv ((i + 1) + u) := by omega
          have htn : mv ((i + 1) + u) ≤ n := by omega
          refine lv_istore (lv' := [(7, .int (nI (mv ((i + 1) + u)))), (6, .int (nI (mv i))), (5, .int (nI i)), (0, .ref h0), (1, .int (nI k)), (2, .int (nI hd)), (3, .int x), (4, .int y)]) hx hb dX9_leadsTo_112 hl (by decide) rfl (fun ls hl => ?_)
          refine lv_aload_n hx hb dX9_leadsTo_114 rfl (lv_at hl 3 rfl) ?_
          refine va_get (D := D) (ci := 9) (v := .ref a9) (C := RX9) (T := TX9) (N := 52) hx hb hts (fun _ h => List.mem_cons_of_mem _ (List.mem_append_left _ (List.mem_append_right _ h))) hown hK hP 0 rfl rfl 9 (by decide) (hts (.fieldLink RX9 37 "LitmusHallModel" "skip" "[I") (by decide +kernel)) (fun _ h9 => h9) rfl dX9_leadsTo_115 ?_
          refine lv_bipush (v := 72) hx hb dX9_leadsTo_118 (by decide) ?_
          refine lv_bipush (v := 12) hx hb dX9_leadsTo_120 (by decide) ?_
          refine lv_iload_n hx hb dX9_leadsTo_122 rfl (lv_at hl 4 rfl) ?_
          refine lv_imul hx hb dX9_leadsTo_123 ?_
          refine gx_top (y := nI (12 * k)) (pk_mul 12 k) ?_
          refine lv_iadd hx hb dX9_leadsTo_124 ?_
          refine gx_top (y := nI (72 + (12 * k))) (nI_add 72 (12 * k)) ?_
          refine lv_iload hx hb dX9_leadsTo_125 (lv_at hl 1 rfl) ?_
          refine lv_iadd hx hb dX9_leadsTo_127 ?_
          refine gx_top (y := nI ((72 + (12 * k)) + (mv i))) (nI_add (72 + (12 * k)) (mv i)) ?_
          refine lv_iload hx hb dX9_leadsTo_128 (lv_at hl 0 rfl) ?_
          refine lv_iload hx hb dX9_leadsTo_130 (lv_at hl 1 rfl) ?_
          refine lv_isub hx hb dX9_leadsTo_132 ?_
          refine gx_top (y := nI ((mv ((i + 1) + u)) - (mv i))) (pk_sub (a := mv ((i + 1) + u)) (b := mv i) (by omega)) ?_
          refine lv_iconst (v := 1) hx hb dX9_leadsTo_133 (by decide) ?_
          refine lv_isub hx hb dX9_leadsTo_134 ?_
          refine gx_top (y := nI (((mv ((i + 1) + u)) - (mv i)) - 1)) (pk_sub (a := (mv ((i + 1) + u)) - (mv i)) (b := 1) (by omega)) ?_
          refine gy_ist (i := ((72 + (12 * k)) + (mv i))) hx hb hK hP hD hS 2 rfl (by omega) (by omega) dX9_leadsTo_135 (fun H locs hP hD hS => ?_)
          have hP : va_P D vwCl [(h0, .inr (9, [v0, v1, .ref a2, v3, v4, v5, v6, v7, v8, .ref a9, v10, v11, v12, v13, v14, v15, v16, v17, v18, v19, v20, v21, v22, v23, v24, v25, v26, v27, v28, v29, v30, v31, v32, v33, v34, v35, v36, v37, v38, v39, v40, v41, v42, v43, v44, v45, v46, v47, v48, v49, v50, .ref a51])), (a2, .inl (cI, 108, .inl kd)), (a9, .inl (cI, 108, .inl (upd sk1 ((72 + (12 * k)) + (mv i)) (nI (((mv ((i + 1) + u)) - (mv i)) - 1))))), (a51, .inl (cI, 13, .inl (fun j => nI (mv j))))] H := hP
          have hD : va_D A [(h0, .inr (9, [v0, v1, .ref a2, v3, v4, v5, v6, v7, v8, .ref a9, v10, v11, v12, v13, v14, v15, v16, v17, v18, v19, v20, v21, v22, v23, v24, v25, v26, v27, v28, v29, v30, v31, v32, v33, v34, v35, v36, v37, v38, v39, v40, v41, v42, v43, v44, v45, v46, v47, v48, v49, v50, .ref a51])), (a2, .inl (cI, 108, .inl kd)), (a9, .inl (cI, 108, .inl (upd sk1 ((72 + (12 * k)) + (mv i)) (nI (((mv ((i + 1) + u)) - (mv i)) - 1))))), (a51, .inl (cI, 13, .inl (fun j => nI (mv j))))] := hD
          refine lv_iinc (v := nI (i + 1)) (lv' := [(5, .int (nI (i + 1))), (7, .int (nI (mv ((i + 1) + u)))), (6, .int (nI (mv i))), (0, .ref h0), (1, .int (nI k)), (2, .int (nI hd)), (3, .int x), (4, .int y)]) hx hb dX9_leadsTo_136 hl (k := 2) rfl (nI_add i 1) (by decide) rfl (fun ls hl => ?_)
          refine lv_goto (tgt := 3) hx hb dX9_leadsTo_139 (by decide) ?_
          exact ih3 ((i + 1), (upd sk1 ((72 + (12 * k)) + (mv i)) (nI (((mv ((i + 1) + u)) - (mv i)) - 1)))) H locs ls ⟨(by show (i + 1) ≤ hd; omega), (by first | exact hi3_1 | exact gFm_u hi3_1 (by omega) (by omega)), (by first | exact gLt_n hi3_2 c_4 | exact gLt_s hi3_2 hm hil how rfl hto htn (by omega)), hP, hD, hS, lv_sub hl [0, 3, 4, 5, 6, 7] rfl⟩ (by show hd - (i + 1) < hd - i; omega)
        · have c_4 : u = 0 := (nI_eq (a := u) (b := 0) (by omega) (by decide)).mp c_4i
          refine lv_iload hx hb dX9_leadsTo_83 (lv_at hl 0 rfl) ?_
          refine lv_iconst (v := 1) hx hb dX9_leadsTo_85 (by decide) ?_
          refine lv_iadd hx hb dX9_leadsTo_86 ?_
          refine gx_top (y := nI ((mv i) + 1)) (nI_add (mv i) 1) ?_
          refine lv_goto (tgt := 112) hx hb dX9_leadsTo_87 (by decide) ?_
          have hto : mv i + 1 ≤ (mv i) + 1 := by omega
          have htn : (mv i) + 1 ≤ n := by omega
          refine lv_istore (lv' := [(7, .int (nI ((mv i) + 1))), (6, .int (nI (mv i))), (5, .int (nI i)), (0, .ref h0), (1, .int (nI k)), (2, .int (nI hd)), (3, .int x), (4, .int y)]) hx hb dX9_leadsTo_112 hl (by decide) rfl (fun ls hl => ?_)
          refine lv_aload_n hx hb dX9_leadsTo_114 rfl (lv_at hl 3 rfl) ?_
          refine va_get (D := D) (ci := 9) (v := .ref a9) (C := RX9) (T := TX9) (N := 52) hx hb hts (fun _ h => List.mem_cons_of_mem _ (List.mem_append_left _ (List.mem_append_right _ h))) hown hK hP 0 rfl rfl 9 (by decide) (hts (.fieldLink RX9 37 "LitmusHallModel" "skip" "[I") (by decide +kernel)) (fun _ h9 => h9) rfl dX9_leadsTo_115 ?_
          refine lv_bipush (v := 72) hx hb dX9_leadsTo_118 (by decide) ?_
          refine lv_bipush (v := 12) hx hb dX9_leadsTo_120 (by decide) ?_
          refine lv_iload_n hx hb dX9_leadsTo_122 rfl (lv_at hl 4 rfl) ?_
          refine lv_imul hx hb dX9_leadsTo_123 ?_
          refine gx_top (y := nI (12 * k)) (pk_mul 12 k) ?_
          refine lv_iadd hx hb dX9_leadsTo_124 ?_
          refine gx_top (y := nI (72 + (12 * k))) (nI_add 72 (12 * k)) ?_
          refine lv_iload hx hb dX9_leadsTo_125 (lv_at hl 1 rfl) ?_
          refine lv_iadd hx hb dX9_leadsTo_127 ?_
          refine gx_top (y := nI ((72 + (12 * k)) + (mv i))) (nI_add (72 + (12 * k)) (mv i)) ?_
          refine lv_iload hx hb dX9_leadsTo_128 (lv_at hl 0 rfl) ?_
          refine lv_iload hx hb dX9_leadsTo_130 (lv_at hl 1 rfl) ?_
          refine lv_isub hx hb dX9_leadsTo_132 ?_
          refine gx_top (y := nI (((mv i) + 1) - (mv i))) (pk_sub (a := (mv i) + 1) (b := mv i) (by omega)) ?_
          refine lv_iconst (v := 1) hx hb dX9_leadsTo_133 (by decide) ?_
          refine lv_isub hx hb dX9_leadsTo_134 ?_
          refine gx_top (y := nI ((((mv i) + 1) - (mv i)) - 1)) (pk_sub (a := ((mv i) + 1) - (mv i)) (b := 1) (by omega)) ?_
          refine gy_ist (i := ((72 + (12 * k)) + (mv i))) hx hb hK hP hD hS 2 rfl (by omega) (by omega) dX9_leadsTo_135 (fun H locs hP hD hS => ?_)
          have hP : va_P D vwCl [(h0, .inr (9, [v0, v1, .ref a2, v3, v4, v5, v6, v7, v8, .ref a9, v10, v11, v12, v13, v14, v15, v16, v17, v18, v19, v20, v21, v22, v23, v24, v25, v26, v27, v28, v29, v30, v31, v32, v33, v34, v35, v36, v37, v38, v39, v40, v41, v42, v43, v44, v45, v46, v47, v48, v49, v50, .ref a51])), (a2, .inl (cI, 108, .inl kd)), (a9, .inl (cI, 108, .inl (upd sk1 ((72 + (12 * k)) + (mv i)) (nI ((((mv i) + 1) - (mv i)) - 1))))), (a51, .inl (cI, 13, .inl (fun j => nI (mv j))))] H := hP
          have hD : va_D A [(h0, .inr (9, [v0, v1, .ref a2, v3, v4, v5, v6, v7, v8, .ref a9, v10, v11, v12, v13, v14, v15, v16, v17, v18, v19, v20, v21, v22, v23, v24, v25, v26, v27, v28, v29, v30, v31, v32, v33, v34, v35, v36, v37, v38, v39, v40, v41, v42, v43, v44, v45, v46, v47, v48, v49, v50, .ref a51])), (a2, .inl (cI, 108, .inl kd)), (a9, .inl (cI, 108, .inl (upd sk1 ((72 + (12 * k)) + (mv i)) (nI ((((mv i) + 1) - (mv i)) - 1))))), (a51, .inl (cI, 13, .inl (fun j => nI (mv j))))] := hD
          refine lv_iinc (v := nI (i + 1)) (lv' := [(5, .int (nI (i + 1))), (7, .int (nI ((mv i) + 1))), (6, .int (nI (mv i))), (0, .ref h0), (1, .int (nI k)), (2, .int (nI hd)), (3, .int x), (4, .int y)]) hx hb dX9_leadsTo_136 hl (k := 2) rfl (nI_add i 1) (by decide) rfl (fun ls hl => ?_)
          refine lv_goto (tgt := 3) hx hb dX9_leadsTo_139 (by decide) ?_
          exact ih3 ((i + 1), (upd sk1 ((72 + (12 * k)) + (mv i)) (nI ((((mv i) + 1) - (mv i)) - 1)))) H locs ls ⟨(by show (i + 1) ≤ hd; omega), (by first | exact hi3_1 | exact gFm_u hi3_1 (by omega) (by omega)), (by first | exact gLt_n hi3_2 c_4 | exact gLt_s hi3_2 hm hil how rfl hto htn (by omega)), hP, hD, hS, lv_sub hl [0, 3, 4, 5, 6, 7] rfl⟩ (by show hd - (i + 1) < hd - i; omega)
      · have c_3 : x = (nI ((10 * k) + i)) ∨ y = (nI ((10 * k) + i)) := gy_b1 c_3
        refine lv_iload hx hb dX9_leadsTo_42 (lv_at hl 0 rfl) ?_
        refine lv_if_le (tgt := 59) hx hb dX9_leadsTo_44 (by decide) (fun c_5i => ?_) (fun c_5i => ?_)
        · have c_5 : i ≤ 0 := (nI_leI (a := i) (b := 0) (by omega) (by decide)).mp c_5i
          refine lv_aload_n hx hb dX9_leadsTo_59 rfl (lv_at hl 1 rfl) ?_
          refine va_get (D := D) (ci := 9) (v := .ref a51) (C := RX9) (T := TX9) (N := 52) hx hb hts (fun _ h => List.mem_cons_of_mem _ (List.mem_append_left _ (List.mem_append_right _ h))) hown hK hP 0 rfl rfl 51 (by decide) (hts (.fieldLink RX9 113 "LitmusHallModel" "moved" "[I") (by decide +kernel)) (fun _ h9 => h9) rfl dX9_leadsTo_60 ?_
          refine lv_iload hx hb dX9_leadsTo_63 (lv_at hl 0 rfl) ?_
          refine gy_ild (i := i) hx hb hK hP 3 rfl (by omega) (by omega) dX9_leadsTo_65 ?_
          refine gx_top (y := nI (mv i)) rfl ?_
          have how : gOw x y k mv i = mv i := (by unfold gOw; first | exact if_pos ⟨c_3, by omega⟩ | exact if_neg (fun h => c_5 h.1) | exact if_neg (fun h => absurd h.2 (by omega)))
          have hon := hm.2.1 i hil
          rw [how] at hon
          have ho1 := (gOw_le (x := x) (y := y) (k := k) (i := i) (mv := mv)).2
          rw [how] at ho1
          have hmu := gMvd_mono hm (show i + 1 ≤ i + 1 + u by omega) (by omega)
          have hmn := gMvd_mono hm (show i + 1 + u ≤ hd by omega) (Nat.le_refl _)
          rw [hm.2.2] at hmn
          refine lv_istore (lv' := [(6, .int (nI (mv i))), (5, .int (nI i)), (0, .ref h0), (1, .int (nI k)), (2, .int (nI hd)), (3, .int x), (4, .int y)]) hx hb dX9_leadsTo_66 hl (by decide) rfl (fun ls hl => ?_)
          refine lv_aload_n hx hb dX9_leadsTo_68 rfl (lv_at hl 2 rfl) ?_
          refine va_get (D := D) (ci := 9) (v := .ref a9) (C := RX9) (T := TX9) (N := 52) hx hb hts (fun _ h => List.mem_cons_of_mem _ (List.mem_append_left _ (List.mem_append_right _ h))) hown hK hP 0 rfl rfl 9 (by decide) (hts (.fieldLink RX9 37 "LitmusHallModel" "skip" "[I") (by decide +kernel)) (fun _ h9 => h9) rfl dX9_leadsTo_69 ?_
          refine lv_bipush (v := 12) hx hb dX9_leadsTo_72 (by decide) ?_
          refine lv_iload_n hx hb dX9_leadsTo_74 rfl (lv_at hl 3 rfl) ?_
          refine lv_imul hx hb dX9_leadsTo_75 ?_
          refine gx_top (y := nI (12 * k)) (pk_mul 12 k) ?_
          refine lv_iload hx hb dX9_leadsTo_76 (lv_at hl 1 rfl) ?_
          refine lv_iadd hx hb dX9_leadsTo_78 ?_
          refine gx_top (y := nI ((12 * k) + i)) (nI_add (12 * k) i) ?_
          refine gy_ild (i := ((12 * k) + i)) hx hb hK hP 2 rfl (by omega) (by omega) dX9_leadsTo_79 ?_
          refine gx_top (y := nI u) ((hi3_1 _ (by omega)).trans eu) ?_
          refine lv_if_ne (tgt := 90) hx hb dX9_leadsTo_80 (by decide) (fun c_6i => ?_) (fun c_6i => ?_)
          · have c_6 : u ≠ 0 := fun q9 => c_6i ((nI_eq (a := u) (b := 0) (by omega) (by decide)).mpr q9)
            refine lv_aload_n hx hb dX9_leadsTo_90 rfl (lv_at hl 2 rfl) ?_
            refine va_get (D := D) (ci := 9) (v := .ref a51) (C := RX9) (T := TX9) (N := 52) hx hb hts (fun _ h => List.mem_cons_of_mem _ (List.mem_append_left _ (List.mem_append_right _ h))) hown hK hP 0 rfl rfl 51 (by decide) (hts (.fieldLink RX9 113 "LitmusHallModel" "moved" "[I") (by decide +kernel)) (fun _ h9 => h9) rfl dX9_leadsTo_91 ?_
            refine lv_iload hx hb dX9_leadsTo_94 (lv_at hl 1 rfl) ?_
            refine lv_iconst (v := 1) hx hb dX9_leadsTo_96 (by decide) ?_
            refine lv_iadd hx hb dX9_leadsTo_97 ?_
            refine gx_top (y := nI (i + 1)) (nI_add i 1) ?_
            refine lv_aload_n hx hb dX9_leadsTo_98 rfl (lv_at hl 2 rfl) ?_
            refine va_get (D := D) (ci := 9) (v := .ref a9) (C := RX9) (T := TX9) (N := 52) hx hb hts (fun _ h => List.mem_cons_of_mem _ (List.mem_append_left _ (List.mem_append_right _ h))) hown hK hP 0 rfl rfl 9 (by decide) (hts (.fieldLink RX9 37 "LitmusHallModel" "skip" "[I") (by decide +kernel)) (fun _ h9 => h9) rfl dX9_leadsTo_99 ?_
            refine lv_bipush (v := 12) hx hb dX9_leadsTo_102 (by decide) ?_
            refine lv_iload_n hx hb dX9_leadsTo_104 rfl (lv_at hl 3 rfl) ?_
            refine lv_imul hx hb dX9_leadsTo_105 ?_
            refine gx_top (y := nI (12 * k)) (pk_mul 12 k) ?_
            refine lv_iload hx hb dX9_leadsTo_106 (lv_at hl 1 rfl) ?_
            refine lv_iadd hx hb dX9_leadsTo_108 ?_
            refine gx_top (y := nI ((12 * k) + i)) (nI_add (12 * k) i) ?_
            refine gy_ild (i := ((12 * k) + i)) hx hb hK hP 2 rfl (by omega) (by omega) dX9_leadsTo_109 ?_
            refine gx_top (y := nI u) ((hi3_1 _ (by omega)).trans eu) ?_
            refine lv_iadd hx hb dX9_leadsTo_110 ?_
            refine gx_top (y := nI ((i + 1) + u)) (nI_add (i + 1) u) ?_
            refine gy_ild (i := ((i + 1) + u)) hx hb hK hP 3 rfl (by omega) (by omega) dX9_leadsTo_111 ?_
            refine gx_top (y := nI (mv ((i + 1) + u))) rfl ?_
            have hto : mv i + 1 ≤ mv ((i + 1) + u) := by omega
            have htn : mv ((i + 1) + u) ≤ n := by omega
            refine lv_istore (lv' := [(7, .int (nI (mv ((i + 1) + u)))), (6, .int (nI (mv i))), (5, .int (nI i)), (0, .ref h0), (1, .int (nI k)), (2, .int (nI hd)), (3, .int x), (4, .int y)]) hx hb dX9_leadsTo_112 hl (by decide) rfl (fun ls hl => ?_)
            refine lv_aload_n hx hb dX9_leadsTo_114 rfl (lv_at hl 3 rfl) ?_
            refine va_get (D := D) (ci := 9) (v := .ref a9) (C := RX9) (T := TX9) (N := 52) hx hb hts (fun _ h => List.mem_cons_of_mem _ (List.mem_append_left _ (List.mem_append_right _ h))) hown hK hP 0 rfl rfl 9 (by decide) (hts (.fieldLink RX9 37 "LitmusHallModel" "skip" "[I") (by decide +kernel)) (fun _ h9 => h9) rfl dX9_leadsTo_115 ?_
            refine lv_bipush (v := 72) hx hb dX9_leadsTo_118 (by decide) ?_
            refine lv_bipush (v := 12) hx hb dX9_leadsTo_120 (by decide) ?_
            refine lv_iload_n hx hb dX9_leadsTo_122 rfl (lv_at hl 4 rfl) ?_
            refine lv_imul hx hb dX9_leadsTo_123 ?_
            refine gx_top (y := nI (12 * k)) (pk_mul 12 k) ?_
            refine lv_iadd hx hb dX9_leadsTo_124 ?_
            refine gx_top (y := nI (72 + (12 * k))) (nI_add 72 (12 * k)) ?_
            refine lv_iload hx hb dX9_leadsTo_125 (lv_at hl 1 rfl) ?_
            refine lv_iadd hx hb dX9_leadsTo_127 ?_
            refine gx_top (y := nI ((72 + (12 * k)) + (mv i))) (nI_add (72 + (12 * k)) (mv i)) ?_
            refine lv_iload hx hb dX9_leadsTo_128 (lv_at hl 0 rfl) ?_
            refine lv_iload hx hb dX9_leadsTo_130 (lv_at hl 1 rfl) ?_
            refine lv_isub hx hb dX9_leadsTo_132 ?_
            refine gx_top (y := nI ((mv ((i + 1) + u)) - (mv i))) (pk_sub (a := mv ((i + 1) + u)) (b := mv i) (by omega)) ?_
            refine lv_iconst (v := 1) hx hb dX9_leadsTo_133 (by decide) ?_
            refine lv_isub hx hb dX9_leadsTo_134 ?_
            refine gx_top (y := nI (((mv ((i + 1) + u)) - (mv i)) - 1)) (pk_sub (a := (mv ((i + 1) + u)) - (mv i)) (b := 1) (by omega)) ?_
            refine gy_ist (i := ((72 + (12 * k)) + (mv i))) hx hb hK hP hD hS 2 rfl (by omega) (by omega) dX9_leadsTo_135 (fun H locs hP hD hS => ?_)
            have hP : va_P D vwCl [(h0, .inr (9, [v0, v1, .ref a2, v3, v4, v5, v6, v7, v8, .ref a9, v10, v11, v12, v13, v14, v15, v16, v17, v18, v19, v20, v21, v22, v23, v24, v25, v26, v27, v28, v29, v30, v31, v32, v33, v34, v35, v36, v37, v38, v39, v40, v41, v42, v43, v44, v45, v46, v47, v48, v49, v50, .ref a51])), (a2, .inl (cI, 108, .inl kd)), (a9, .inl (cI, 108, .inl (upd sk1 ((72 + (12 * k)) + (mv i)) (nI (((mv ((i + 1) + u)) - (mv i)) - 1))))), (a51, .inl (cI, 13, .inl (fun j => nI (mv j))))] H := hP
            have hD : va_D A [(h0, .inr (9, [v0, v1, .ref a2, v3, v4, v5, v6, v7, v8, .ref a9, v10, v11, v12, v13, v14, v15, v16, v17, v18, v19, v20, v21, v22, v23, v24, v25, v26, v27, v28, v29, v30, v31, v32, v33, v34, v35, v36, v37, v38, v39, v40, v41, v42, v43, v44, v45, v46, v47, v48, v49, v50, .ref a51])), (a2, .inl (cI, 108, .inl kd)), (a9, .inl (cI, 108, .inl (upd sk1 ((72 + (12 * k)) + (mv i)) (nI (((mv ((i + 1) + u)) - (mv i)) - 1))))), (a51, .inl (cI, 13, .inl (fun j => nI (mv j))))] := hD
            refine lv_iinc (v := nI (i + 1)) (lv' := [(5, .int (nI (i + 1))), (7, .int (nI (mv ((i + 1) + u)))), (6, .int (nI (mv i))), (0, .ref h0), (1, .int (nI k)), (2, .int (nI hd)), (3, .int x), (4, .int y)]) hx hb dX9_leadsTo_136 hl (k := 2) rfl (nI_add i 1) (by decide) rfl (fun ls hl => ?_)
            refine lv_goto (tgt := 3) hx hb dX9_leadsTo_139 (by decide) ?_
            exact ih3 ((i + 1), (upd sk1 ((72 + (12 * k)) + (mv i)) (nI (((mv ((i + 1) + u)) - (mv i)) - 1)))) H locs ls ⟨(by show (i + 1) ≤ hd; omega), (by first | exact hi3_1 | exact gFm_u hi3_1 (by omega) (by omega)), (by first | exact gLt_n hi3_2 c_6 | exact gLt_s hi3_2 hm hil how rfl hto htn (by omega)), hP, hD, hS, lv_sub hl [0, 3, 4, 5, 6, 7] rfl⟩ (by show hd - (i + 1) < hd - i; omega)
          · have c_6 : u = 0 := (nI_eq (a := u) (b := 0) (by omega) (by decide)).mp c_6i
            refine lv_iload hx hb dX9_leadsTo_83 (lv_at hl 0 rfl) ?_
            refine lv_iconst (v := 1) hx hb dX9_leadsTo_85 (by decide) ?_
            refine lv_iadd hx hb dX9_leadsTo_86 ?_
            refine gx_top (y := nI ((mv i) + 1)) (nI_add (mv i) 1) ?_
            refine lv_goto (tgt := 112) hx hb dX9_leadsTo_87 (by decide) ?_
            have hto : mv i + 1 ≤ (mv i) + 1 := by omega
            have htn : (mv i) + 1 ≤ n := by omega
            refine lv_istore (lv' := [(7, .int (nI ((mv i) + 1))), (6, .int (nI (mv i))), (5, .int (nI i)), (0, .ref h0), (1, .int (nI k)), (2, .int (nI hd)), (3, .int x), (4, .int y)]) hx hb dX9_leadsTo_112 hl (by decide) rfl (fun ls hl => ?_)
            refine lv_aload_n hx hb dX9_leadsTo_114 rfl (lv_at hl 3 rfl) ?_
            refine va_get (D := D) (ci := 9) (v := .ref a9) (C := RX9) (T := TX9) (N := 52) hx hb hts (fun _ h => List.mem_cons_of_mem _ (List.mem_append_left _ (List.mem_append_right _ h))) hown hK hP 0 rfl rfl 9 (by decide) (hts (.fieldLink RX9 37 "LitmusHallModel" "skip" "[I") (by decide +kernel)) (fun _ h9 => h9) rfl dX9_leadsTo_115 ?_
            refine lv_bipush (v := 72) hx hb dX9_leadsTo_118 (by decide) ?_
            refine lv_bipush (v := 12) hx hb dX9_leadsTo_120 (by decide) ?_
            refine lv_iload_n hx hb dX9_leadsTo_122 rfl (lv_at hl 4 rfl) ?_
            refine lv_imul hx hb dX9_leadsTo_123 ?_
            refine gx_top (y := nI (12 * k)) (pk_mul 12 k) ?_
            refine lv_iadd hx hb dX9_leadsTo_124 ?_
            refine gx_top (y := nI (72 + (12 * k))) (nI_add 72 (12 * k)) ?_
            refine lv_iload hx hb dX9_leadsTo_125 (lv_at hl 1 rfl) ?_
            refine lv_iadd hx hb dX9_leadsTo_127 ?_
            refine gx_top (y := nI ((72 + (12 * k)) + (mv i))) (nI_add (72 + (12 * k)) (mv i)) ?_
            refine lv_iload hx hb dX9_leadsTo_128 (lv_at hl 0 rfl) ?_
            refine lv_iload hx hb dX9_leadsTo_130 (lv_at hl 1 rfl) ?_
            refine lv_isub hx hb dX9_leadsTo_132 ?_
            refine gx_top (y := nI (((mv i) + 1) - (mv i))) (pk_sub (a := (mv i) + 1) (b := mv i) (by omega)) ?_
            refine lv_iconst (v := 1) hx hb dX9_leadsTo_133 (by decide) ?_
            refine lv_isub hx hb dX9_leadsTo_134 ?_
            refine gx_top (y := nI ((((mv i) + 1) - (mv i)) - 1)) (pk_sub (a := ((mv i) + 1) - (mv i)) (b := 1) (by omega)) ?_
            refine gy_ist (i := ((72 + (12 * k)) + (mv i))) hx hb hK hP hD hS 2 rfl (by omega) (by omega) dX9_leadsTo_135 (fun H locs hP hD hS => ?_)
            have hP : va_P D vwCl [(h0, .inr (9, [v0, v1, .ref a2, v3, v4, v5, v6, v7, v8, .ref a9, v10, v11, v12, v13, v14, v15, v16, v17, v18, v19, v20, v21, v22, v23, v24, v25, v26, v27, v28, v29, v30, v31, v32, v33, v34, v35, v36, v37, v38, v39, v40, v41, v42, v43, v44, v45, v46, v47, v48, v49, v50, .ref a51])), (a2, .inl (cI, 108, .inl kd)), (a9, .inl (cI, 108, .inl (upd sk1 ((72 + (12 * k)) + (mv i)) (nI ((((mv i) + 1) - (mv i)) - 1))))), (a51, .inl (cI, 13, .inl (fun j => nI (mv j))))] H := hP
            have hD : va_D A [(h0, .inr (9, [v0, v1, .ref a2, v3, v4, v5, v6, v7, v8, .ref a9, v10, v11, v12, v13, v14, v15, v16, v17, v18, v19, v20, v21, v22, v23, v24, v25, v26, v27, v28, v29, v30, v31, v32, v33, v34, v35, v36, v37, v38, v39, v40, v41, v42, v43, v44, v45, v46, v47, v48, v49, v50, .ref a51])), (a2, .inl (cI, 108, .inl kd)), (a9, .inl (cI, 108, .inl (upd sk1 ((72 + (12 * k)) + (mv i)) (nI ((((mv i) + 1) - (mv i)) - 1))))), (a51, .inl (cI, 13, .inl (fun j => nI (mv j))))] := hD
            refine lv_iinc (v := nI (i + 1)) (lv' := [(5, .int (nI (i + 1))), (7, .int (nI ((mv i) + 1))), (6, .int (nI (mv i))), (0, .ref h0), (1, .int (nI k)), (2, .int (nI hd)), (3, .int x), (4, .int y)]) hx hb dX9_leadsTo_136 hl (k := 2) rfl (nI_add i 1) (by decide) rfl (fun ls hl => ?_)
            refine lv_goto (tgt := 3) hx hb dX9_leadsTo_139 (by decide) ?_
            exact ih3 ((i + 1), (upd sk1 ((72 + (12 * k)) + (mv i)) (nI ((((mv i) + 1) - (mv i)) - 1)))) H locs ls ⟨(by show (i + 1) ≤ hd; omega), (by first | exact hi3_1 | exact gFm_u hi3_1 (by omega) (by omega)), (by first | exact gLt_n hi3_2 c_6 | exact gLt_s hi3_2 hm hil how rfl hto htn (by omega)), hP, hD, hS, lv_sub hl [0, 3, 4, 5, 6, 7] rfl⟩ (by show hd - (i + 1) < hd - i; omega)
        · have c_5 : 0 < i := Nat.pos_of_ne_zero (fun q9 => c_5i ((nI_leI (a := i) (b := 0) (by omega) (by decide)).mpr (Nat.le_of_eq q9)))
          refine lv_aload_n hx hb dX9_leadsTo_47 rfl (lv_at hl 1 rfl) ?_
          refine va_get (D := D) (ci := 9) (v := .ref a51) (C := RX9) (T := TX9) (N := 52) hx hb hts (fun _ h => List.mem_cons_of_mem _ (List.mem_append_left _ (List.mem_append_right _ h))) hown hK hP 0 rfl rfl 51 (by decide) (hts (.fieldLink RX9 113 "LitmusHallModel" "moved" "[I") (by decide +kernel)) (fun _ h9 => h9) rfl dX9_leadsTo_48 ?_
          refine lv_iload hx hb dX9_leadsTo_51 (lv_at hl 0 rfl) ?_
          refine gy_ild (i := i) hx hb hK hP 3 rfl (by omega) (by omega) dX9_leadsTo_53 ?_
          refine gx_top (y := nI (mv i)) rfl ?_
          refine lv_iconst (v := 1) hx hb dX9_leadsTo_54 (by decide) ?_
          refine lv_iadd hx hb dX9_leadsTo_55 ?_
          refine gx_top (y := nI ((mv i) + 1)) (nI_add (mv i) 1) ?_
          refine lv_goto (tgt := 66) hx hb dX9_leadsTo_56 (by decide) ?_
          have how : gOw x y k mv i = (mv i) + 1 := (by unfold gOw; first | exact if_pos ⟨c_3, by omega⟩ | exact if_neg (fun h => c_5 h.1) | exact if_neg (fun h => absurd h.2 (by omega)))
          have hon := hm.2.1 i hil
          rw [how] at hon
          have ho1 := (gOw_le (x := x) (y := y) (k := k) (i := i) (mv := mv)).2
          rw [how] at ho1
          have hmu := gMvd_mono hm (show i + 1 ≤ i + 1 + u by omega) (by omega)
          have hmn := gMvd_mono hm (show i + 1 + u ≤ hd by omega) (Nat.le_refl _)
          rw [hm.2.2] at hmn
          refine lv_istore (lv' := [(6, .int (nI ((mv i) + 1))), (5, .int (nI i)), (0, .ref h0), (1, .int (nI k)), (2, .int (nI hd)), (3, .int x), (4, .int y)]) hx hb dX9_leadsTo_66 hl (by decide) rfl (fun ls hl => ?_)
          refine lv_aload_n hx hb dX9_leadsTo_68 rfl (lv_at hl 2 rfl) ?_
          refine va_get (D := D) (ci := 9) (v := .ref a9) (C := RX9) (T := TX9) (N := 52) hx hb hts (fun _ h => List.mem_cons_of_mem _ (List.mem_append_left _ (List.mem_append_right _ h))) hown hK hP 0 rfl rfl 9 (by decide) (hts (.fieldLink RX9 37 "LitmusHallModel" "skip" "[I") (by decide +kernel)) (fun _ h9 => h9) rfl dX9_leadsTo_69 ?_
          refine lv_bipush (v := 12) hx hb dX9_leadsTo_72 (by decide) ?_
          refine lv_iload_n hx hb dX9_leadsTo_74 rfl (lv_at hl 3 rfl) ?_
          refine lv_imul hx hb dX9_leadsTo_75 ?_
          refine gx_top (y := nI (12 * k)) (pk_mul 12 k) ?_
          refine lv_iload hx hb dX9_leadsTo_76 (lv_at hl 1 rfl) ?_
          refine lv_iadd hx hb dX9_leadsTo_78 ?_
          refine gx_top (y := nI ((12 * k) + i)) (nI_add (12 * k) i) ?_
          refine gy_ild (i := ((12 * k) + i)) hx hb hK hP 2 rfl (by omega) (by omega) dX9_leadsTo_79 ?_
          refine gx_top (y := nI u) ((hi3_1 _ (by omega)).trans eu) ?_
          refine lv_if_ne (tgt := 90) hx hb dX9_leadsTo_80 (by decide) (fun c_7i => ?_) (fun c_7i => ?_)
          · have c_7 : u ≠ 0 := fun q9 => c_7i ((nI_eq (a := u) (b := 0) (by omega) (by decide)).mpr q9)
            refine lv_aload_n hx hb dX9_leadsTo_90 rfl (lv_at hl 2 rfl) ?_
            refine va_get (D := D) (ci := 9) (v := .ref a51) (C := RX9) (T := TX9) (N := 52) hx hb hts (fun _ h => List.mem_cons_of_mem _ (List.mem_append_left _ (List.mem_append_right _ h))) hown hK hP 0 rfl rfl 51 (by decide) (hts (.fieldLink RX9 113 "LitmusHallModel" "moved" "[I") (by decide +kernel)) (fun _ h9 => h9) rfl dX9_leadsTo_91 ?_
            refine lv_iload hx hb dX9_leadsTo_94 (lv_at hl 1 rfl) ?_
            refine lv_iconst (v := 1) hx hb dX9_leadsTo_96 (by decide) ?_
            refine lv_iadd hx hb dX9_leadsTo_97 ?_
            refine gx_top (y := nI (i + 1)) (nI_add i 1) ?_
            refine lv_aload_n hx hb dX9_leadsTo_98 rfl (lv_at hl 2 rfl) ?_
            refine va_get (D := D) (ci := 9) (v := .ref a9) (C := RX9) (T := TX9) (N := 52) hx hb hts (fun _ h => List.mem_cons_of_mem _ (List.mem_append_left _ (List.mem_append_right _ h))) hown hK hP 0 rfl rfl 9 (by decide) (hts (.fieldLink RX9 37 "LitmusHallModel" "skip" "[I") (by decide +kernel)) (fun _ h9 => h9) rfl dX9_leadsTo_99 ?_
            refine lv_bipush (v := 12) hx hb dX9_leadsTo_102 (by decide) ?_
            refine lv_iload_n hx hb dX9_leadsTo_104 rfl (lv_at hl 3 rfl) ?_
            refine lv_imul hx hb dX9_leadsTo_105 ?_
            refine gx_top (y := nI (12 * k)) (pk_mul 12 k) ?_
            refine lv_iload hx hb dX9_leadsTo_106 (lv_at hl 1 rfl) ?_
            refine lv_iadd hx hb dX9_leadsTo_108 ?_
            refine gx_top (y := nI ((12 * k) + i)) (nI_add (12 * k) i) ?_
            refine gy_ild (i := ((12 * k) + i)) hx hb hK hP 2 rfl (by omega) (by omega) dX9_leadsTo_109 ?_
            refine gx_top (y := nI u) ((hi3_1 _ (by omega)).trans eu) ?_
            refine lv_iadd hx hb dX9_leadsTo_110 ?_
            refine gx_top (y := nI ((i + 1) + u)) (nI_add (i + 1) u) ?_
            refine gy_ild (i := ((i + 1) + u)) hx hb hK hP 3 rfl (by omega) (by omega) dX9_leadsTo_111 ?_
            refine gx_top (y := nI (mv ((i + 1) + u))) rfl ?_
            have hto : (mv i) + 1 + 1 ≤ mv ((i + 1) + u) := by omega
            have htn : mv ((i + 1) + u) ≤ n := by omega
            refine lv_istore (lv' := [(7, .int (nI (mv ((i + 1) + u)))), (6, .int (nI ((mv i) + 1))), (5, .int (nI i)), (0, .ref h0), (1, .int (nI k)), (2, .int (nI hd)), (3, .int x), (4, .int y)]) hx hb dX9_leadsTo_112 hl (by decide) rfl (fun ls hl => ?_)
            refine lv_aload_n hx hb dX9_leadsTo_114 rfl (lv_at hl 3 rfl) ?_
            refine va_get (D := D) (ci := 9) (v := .ref a9) (C := RX9) (T := TX9) (N := 52) hx hb hts (fun _ h => List.mem_cons_of_mem _ (List.mem_append_left _ (List.mem_append_right _ h))) hown hK hP 0 rfl rfl 9 (by decide) (hts (.fieldLink RX9 37 "LitmusHallModel" "skip" "[I") (by decide +kernel)) (fun _ h9 => h9) rfl dX9_leadsTo_115 ?_
            refine lv_bipush (v := 72) hx hb dX9_leadsTo_118 (by decide) ?_
            refine lv_bipush (v := 12) hx hb dX9_leadsTo_120 (by decide) ?_
            refine lv_iload_n hx hb dX9_leadsTo_122 rfl (lv_at hl 4 rfl) ?_
            refine lv_imul hx hb dX9_leadsTo_123 ?_
            refine gx_top (y := nI (12 * k)) (pk_mul 12 k) ?_
            refine lv_iadd hx hb dX9_leadsTo_124 ?_
            refine gx_top (y := nI (72 + (12 * k))) (nI_add 72 (12 * k)) ?_
            refine lv_iload hx hb dX9_leadsTo_125 (lv_at hl 1 rfl) ?_
            refine lv_iadd hx hb dX9_leadsTo_127 ?_
            refine gx_top (y := nI ((72 + (12 * k)) + ((mv i) + 1))) (nI_add (72 + (12 * k)) ((mv i) + 1)) ?_
            refine lv_iload hx hb dX9_leadsTo_128 (lv_at hl 0 rfl) ?_
            refine lv_iload hx hb dX9_leadsTo_130 (lv_at hl 1 rfl) ?_
            refine lv_isub hx hb dX9_leadsTo_132 ?_
            refine gx_top (y := nI ((mv ((i + 1) + u)) - ((mv i) + 1))) (pk_sub (a := mv ((i + 1) + u)) (b := (mv i) + 1) (by omega)) ?_
            refine lv_iconst (v := 1) hx hb dX9_leadsTo_133 (by decide) ?_
            refine lv_isub hx hb dX9_leadsTo_134 ?_
            refine gx_top (y := nI (((mv ((i + 1) + u)) - ((mv i) + 1)) - 1)) (pk_sub (a := (mv ((i + 1) + u)) - ((mv i) + 1)) (b := 1) (by omega)) ?_
            refine gy_ist (i := ((72 + (12 * k)) + ((mv i) + 1))) hx hb hK hP hD hS 2 rfl (by omega) (by omega) dX9_leadsTo_135 (fun H locs hP hD hS => ?_)
            have hP : va_P D vwCl [(h0, .inr (9, [v0, v1, .ref a2, v3, v4, v5, v6, v7, v8, .ref a9, v10, v11, v12, v13, v14, v15, v16, v17, v18, v19, v20, v21, v22, v23, v24, v25, v26, v27, v28, v29, v30, v31, v32, v33, v34, v35, v36, v37, v38, v39, v40, v41, v42, v43, v44, v45, v46, v47, v48, v49, v50, .ref a51])), (a2, .inl (cI, 108, .inl kd)), (a9, .inl (cI, 108, .inl (upd sk1 ((72 + (12 * k)) + ((mv i) + 1)) (nI (((mv ((i + 1) + u)) - ((mv i) + 1)) - 1))))), (a51, .inl (cI, 13, .inl (fun j => nI (mv j))))] H := hP
            have hD : va_D A [(h0, .inr (9, [v0, v1, .ref a2, v3, v4, v5, v6, v7, v8, .ref a9, v10, v11, v12, v13, v14, v15, v16, v17, v18, v19, v20, v21, v22, v23, v24, v25, v26, v27, v28, v29, v30, v31, v32, v33, v34, v35, v36, v37, v38, v39, v40, v41, v42, v43, v44, v45, v46, v47, v48, v49, v50, .ref a51])), (a2, .inl (cI, 108, .inl kd)), (a9, .inl (cI, 108, .inl (upd sk1 ((72 + (12 * k)) + ((mv i) + 1)) (nI (((mv ((i + 1) + u)) - ((mv i) + 1)) - 1))))), (a51, .inl (cI, 13, .inl (fun j => nI (mv j))))] := hD
            refine lv_iinc (v := nI (i + 1)) (lv' := [(5, .int (nI (i + 1))), (7, .int (nI (mv ((i + 1) + u)))), (6, .int (nI ((mv i) + 1))), (0, .ref h0), (1, .int (nI k)), (2, .int (nI hd)), (3, .int x), (4, .int y)]) hx hb dX9_leadsTo_136 hl (k := 2) rfl (nI_add i 1) (by decide) rfl (fun ls hl => ?_)
            refine lv_goto (tgt := 3) hx hb dX9_leadsTo_139 (by decide) ?_
            exact ih3 ((i + 1), (upd sk1 ((72 + (12 * k)) + ((mv i) + 1)) (nI (((mv ((i + 1) + u)) - ((mv i) + 1)) - 1)))) H locs ls ⟨(by show (i + 1) ≤ hd; omega), (by first | exact hi3_1 | exact gFm_u hi3_1 (by omega) (by omega)), (by first | exact gLt_n hi3_2 c_7 | exact gLt_s hi3_2 hm hil how rfl hto htn (by omega)), hP, hD, hS, lv_sub hl [0, 3, 4, 5, 6, 7] rfl⟩ (by show hd - (i + 1) < hd - i; omega)
          · have c_7 : u = 0 := (nI_eq (a := u) (b := 0) (by omega) (by decide)).mp c_7i
            refine lv_iload hx hb dX9_leadsTo_83 (lv_at hl 0 rfl) ?_
            refine lv_iconst (v := 1) hx hb dX9_leadsTo_85 (by decide) ?_
            refine lv_iadd hx hb dX9_leadsTo_86 ?_
            refine gx_top (y := nI (((mv i) + 1) + 1)) (nI_add ((mv i) + 1) 1) ?_
            refine lv_goto (tgt := 112) hx hb dX9_leadsTo_87 (by decide) ?_
            have hto : (mv i) + 1 + 1 ≤ ((mv i) + 1) + 1 := by omega
            have htn : ((mv i) + 1) + 1 ≤ n := by omega
            refine lv_istore (lv' := [(7, .int (nI (((mv i) + 1) + 1))), (6, .int (nI ((mv i) + 1))), (5, .int (nI i)), (0, .ref h0), (1, .int (nI k)), (2, .int (nI hd)), (3, .int x), (4, .int y)]) hx hb dX9_leadsTo_112 hl (by decide) rfl (fun ls hl => ?_)
            refine lv_aload_n hx hb dX9_leadsTo_114 rfl (lv_at hl 3 rfl) ?_
            refine va_get (D := D) (ci := 9) (v := .ref a9) (C := RX9) (T := TX9) (N := 52) hx hb hts (fun _ h => List.mem_cons_of_mem _ (List.mem_append_left _ (List.mem_append_right _ h))) hown hK hP 0 rfl rfl 9 (by decide) (hts (.fieldLink RX9 37 "LitmusHallModel" "skip" "[I") (by decide +kernel)) (fun _ h9 => h9) rfl dX9_leadsTo_115 ?_
            refine lv_bipush (v := 72) hx hb dX9_leadsTo_118 (by decide) ?_
            refine lv_bipush (v := 12) hx hb dX9_leadsTo_120 (by decide) ?_
            refine lv_iload_n hx hb dX9_leadsTo_122 rfl (lv_at hl 4 rfl) ?_
            refine lv_imul hx hb dX9_leadsTo_123 ?_
            refine gx_top (y := nI (12 * k)) (pk_mul 12 k) ?_
            refine lv_iadd hx hb dX9_leadsTo_124 ?_
            refine gx_top (y := nI (72 + (12 * k))) (nI_add 72 (12 * k)) ?_
            refine lv_iload hx hb dX9_leadsTo_125 (lv_at hl 1 rfl) ?_
            refine lv_iadd hx hb dX9_leadsTo_127 ?_
            refine gx_top (y := nI ((72 + (12 * k)) + ((mv i) + 1))) (nI_add (72 + (12 * k)) ((mv i) + 1)) ?_
            refine lv_iload hx hb dX9_leadsTo_128 (lv_at hl 0 rfl) ?_
            refine lv_iload hx hb dX9_leadsTo_130 (lv_at hl 1 rfl) ?_
            refine lv_isub hx hb dX9_leadsTo_132 ?_
            refine gx_top (y := nI ((((mv i) + 1) + 1) - ((mv i) + 1))) (pk_sub (a := ((mv i) + 1) + 1) (b := (mv i) + 1) (by omega)) ?_
            refine lv_iconst (v := 1) hx hb dX9_leadsTo_133 (by decide) ?_
            refine lv_isub hx hb dX9_leadsTo_134 ?_
            refine gx_top (y := nI (((((mv i) + 1) + 1) - ((mv i) + 1)) - 1)) (pk_sub (a := (((mv i) + 1) + 1) - ((mv i) + 1)) (b := 1) (by omega)) ?_
            refine gy_ist (i := ((72 + (12 * k)) + ((mv i) + 1))) hx hb hK hP hD hS 2 rfl (by omega) (by omega) dX9_leadsTo_135 (fun H locs hP hD hS => ?_)
            have hP : va_P D vwCl [(h0, .inr (9, [v0, v1, .ref a2, v3, v4, v5, v6, v7, v8, .ref a9, v10, v11, v12, v13, v14, v15, v16, v17, v18, v19, v20, v21, v22, v23, v24, v25, v26, v27, v28, v29, v30, v31, v32, v33, v34, v35, v36, v37, v38, v39, v40, v41, v42, v43, v44, v45, v46, v47, v48, v49, v50, .ref a51])), (a2, .inl (cI, 108, .inl kd)), (a9, .inl (cI, 108, .inl (upd sk1 ((72 + (12 * k)) + ((mv i) + 1)) (nI (((((mv i) + 1) + 1) - ((mv i) + 1)) - 1))))), (a51, .inl (cI, 13, .inl (fun j => nI (mv j))))] H := hP
            have hD : va_D A [(h0, .inr (9, [v0, v1, .ref a2, v3, v4, v5, v6, v7, v8, .ref a9, v10, v11, v12, v13, v14, v15, v16, v17, v18, v19, v20, v21, v22, v23, v24, v25, v26, v27, v28, v29, v30, v31, v32, v33, v34, v35, v36, v37, v38, v39, v40, v41, v42, v43, v44, v45, v46, v47, v48, v49, v50, .ref a51])), (a2, .inl (cI, 108, .inl kd)), (a9, .inl (cI, 108, .inl (upd sk1 ((72 + (12 * k)) + ((mv i) + 1)) (nI (((((mv i) + 1) + 1) - ((mv i) + 1)) - 1))))), (a51, .inl (cI, 13, .inl (fun j => nI (mv j))))] := hD
            refine lv_iinc (v := nI (i + 1)) (lv' := [(5, .int (nI (i + 1))), (7, .int (nI (((mv i) + 1) + 1))), (6, .int (nI ((mv i) + 1))), (0, .ref h0), (1, .int (nI k)), (2, .int (nI hd)), (3, .int x), (4, .int y)]) hx hb dX9_leadsTo_136 hl (k := 2) rfl (nI_add i 1) (by decide) rfl (fun ls hl => ?_)
            refine lv_goto (tgt := 3) hx hb dX9_leadsTo_139 (by decide) ?_
            exact ih3 ((i + 1), (upd sk1 ((72 + (12 * k)) + ((mv i) + 1)) (nI (((((mv i) + 1) + 1) - ((mv i) + 1)) - 1)))) H locs ls ⟨(by show (i + 1) ≤ hd; omega), (by first | exact hi3_1 | exact gFm_u hi3_1 (by omega) (by omega)), (by first | exact gLt_n hi3_2 c_7 | exact gLt_s hi3_2 hm hil how rfl hto htn (by omega)), hP, hD, hS, lv_sub hl [0, 3, 4, 5, 6, 7] rfl⟩ (by show hd - (i + 1) < hd - i; omega)
