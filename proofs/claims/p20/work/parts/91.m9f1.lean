theorem dX9_leadsTo_0 : decode cX9_leadsTo 0 = .ok (.iconst 0, 1) := by decide +kernel
theorem dX9_leadsTo_1 : decode cX9_leadsTo 1 = .ok (.istore 5, 2) := by decide +kernel
theorem dX9_leadsTo_10 : decode cX9_leadsTo 10 = .ok (.getfield 16, 3) := by decide +kernel
theorem dX9_leadsTo_102 : decode cX9_leadsTo 102 = .ok (.bipush 12, 2) := by decide +kernel
theorem dX9_leadsTo_104 : decode cX9_leadsTo 104 = .ok (.iload_n 1, 1) := by decide +kernel
theorem dX9_leadsTo_105 : decode cX9_leadsTo 105 = .ok (.imul, 1) := by decide +kernel
theorem dX9_leadsTo_106 : decode cX9_leadsTo 106 = .ok (.iload 5, 2) := by decide +kernel
theorem dX9_leadsTo_108 : decode cX9_leadsTo 108 = .ok (.iadd, 1) := by decide +kernel
theorem dX9_leadsTo_109 : decode cX9_leadsTo 109 = .ok (.iaload, 1) := by decide +kernel
theorem dX9_leadsTo_110 : decode cX9_leadsTo 110 = .ok (.iadd, 1) := by decide +kernel
theorem dX9_leadsTo_111 : decode cX9_leadsTo 111 = .ok (.iaload, 1) := by decide +kernel
theorem dX9_leadsTo_112 : decode cX9_leadsTo 112 = .ok (.istore 7, 2) := by decide +kernel
theorem dX9_leadsTo_114 : decode cX9_leadsTo 114 = .ok (.aload_n 0, 1) := by decide +kernel
theorem dX9_leadsTo_115 : decode cX9_leadsTo 115 = .ok (.getfield 37, 3) := by decide +kernel
theorem dX9_leadsTo_118 : decode cX9_leadsTo 118 = .ok (.bipush 72, 2) := by decide +kernel
theorem dX9_leadsTo_120 : decode cX9_leadsTo 120 = .ok (.bipush 12, 2) := by decide +kernel
theorem dX9_leadsTo_122 : decode cX9_leadsTo 122 = .ok (.iload_n 1, 1) := by decide +kernel
theorem dX9_leadsTo_123 : decode cX9_leadsTo 123 = .ok (.imul, 1) := by decide +kernel
theorem dX9_leadsTo_124 : decode cX9_leadsTo 124 = .ok (.iadd, 1) := by decide +kernel
theorem dX9_leadsTo_125 : decode cX9_leadsTo 125 = .ok (.iload 6, 2) := by decide +kernel
theorem dX9_leadsTo_127 : decode cX9_leadsTo 127 = .ok (.iadd, 1) := by decide +kernel
theorem dX9_leadsTo_128 : decode cX9_leadsTo 128 = .ok (.iload 7, 2) := by decide +kernel
theorem dX9_leadsTo_13 : decode cX9_leadsTo 13 = .ok (.bipush 12, 2) := by decide +kernel
theorem dX9_leadsTo_130 : decode cX9_leadsTo 130 = .ok (.iload 6, 2) := by decide +kernel
theorem dX9_leadsTo_132 : decode cX9_leadsTo 132 = .ok (.isub, 1) := by decide +kernel
theorem dX9_leadsTo_133 : decode cX9_leadsTo 133 = .ok (.iconst 1, 1) := by decide +kernel
theorem dX9_leadsTo_134 : decode cX9_leadsTo 134 = .ok (.isub, 1) := by decide +kernel
theorem dX9_leadsTo_135 : decode cX9_leadsTo 135 = .ok (.iastore, 1) := by decide +kernel
theorem dX9_leadsTo_136 : decode cX9_leadsTo 136 = .ok (.iinc 5 1, 3) := by decide +kernel
theorem dX9_leadsTo_139 : decode cX9_leadsTo 139 = .ok (.goto (-136), 3) := by decide +kernel
theorem dX9_leadsTo_142 : decode cX9_leadsTo 142 = .ok (.return_, 1) := by decide +kernel
theorem dX9_leadsTo_15 : decode cX9_leadsTo 15 = .ok (.iload_n 1, 1) := by decide +kernel
theorem dX9_leadsTo_16 : decode cX9_leadsTo 16 = .ok (.imul, 1) := by decide +kernel
theorem dX9_leadsTo_17 : decode cX9_leadsTo 17 = .ok (.iload 5, 2) := by decide +kernel
theorem dX9_leadsTo_19 : decode cX9_leadsTo 19 = .ok (.iadd, 1) := by decide +kernel
theorem dX9_leadsTo_20 : decode cX9_leadsTo 20 = .ok (.iaload, 1) := by decide +kernel
theorem dX9_leadsTo_21 : decode cX9_leadsTo 21 = .ok (.bipush 8, 2) := by decide +kernel
theorem dX9_leadsTo_23 : decode cX9_leadsTo 23 = .ok (.if_icmp .ne 113, 3) := by decide +kernel
theorem dX9_leadsTo_26 : decode cX9_leadsTo 26 = .ok (.iload_n 3, 1) := by decide +kernel
theorem dX9_leadsTo_27 : decode cX9_leadsTo 27 = .ok (.iload 4, 2) := by decide +kernel
theorem dX9_leadsTo_29 : decode cX9_leadsTo 29 = .ok (.bipush 10, 2) := by decide +kernel
theorem dX9_leadsTo_3 : decode cX9_leadsTo 3 = .ok (.iload 5, 2) := by decide +kernel
theorem dX9_leadsTo_31 : decode cX9_leadsTo 31 = .ok (.iload_n 1, 1) := by decide +kernel
theorem dX9_leadsTo_32 : decode cX9_leadsTo 32 = .ok (.imul, 1) := by decide +kernel
theorem dX9_leadsTo_33 : decode cX9_leadsTo 33 = .ok (.iload 5, 2) := by decide +kernel
theorem dX9_leadsTo_35 : decode cX9_leadsTo 35 = .ok (.iadd, 1) := by decide +kernel
theorem dX9_leadsTo_36 : decode cX9_leadsTo 36 = .ok (.invokestatic 384, 3) := by decide +kernel
theorem dX9_leadsTo_39 : decode cX9_leadsTo 39 = .ok (.ifCond .eq 20, 3) := by decide +kernel
theorem dX9_leadsTo_42 : decode cX9_leadsTo 42 = .ok (.iload 5, 2) := by decide +kernel
theorem dX9_leadsTo_44 : decode cX9_leadsTo 44 = .ok (.ifCond .le 15, 3) := by decide +kernel
theorem dX9_leadsTo_47 : decode cX9_leadsTo 47 = .ok (.aload_n 0, 1) := by decide +kernel
theorem dX9_leadsTo_48 : decode cX9_leadsTo 48 = .ok (.getfield 113, 3) := by decide +kernel
theorem dX9_leadsTo_5 : decode cX9_leadsTo 5 = .ok (.iload_n 2, 1) := by decide +kernel
theorem dX9_leadsTo_51 : decode cX9_leadsTo 51 = .ok (.iload 5, 2) := by decide +kernel
theorem dX9_leadsTo_53 : decode cX9_leadsTo 53 = .ok (.iaload, 1) := by decide +kernel
theorem dX9_leadsTo_54 : decode cX9_leadsTo 54 = .ok (.iconst 1, 1) := by decide +kernel
theorem dX9_leadsTo_55 : decode cX9_leadsTo 55 = .ok (.iadd, 1) := by decide +kernel
theorem dX9_leadsTo_56 : decode cX9_leadsTo 56 = .ok (.goto 10, 3) := by decide +kernel
theorem dX9_leadsTo_59 : decode cX9_leadsTo 59 = .ok (.aload_n 0, 1) := by decide +kernel
theorem dX9_leadsTo_6 : decode cX9_leadsTo 6 = .ok (.if_icmp .ge 136, 3) := by decide +kernel
theorem dX9_leadsTo_60 : decode cX9_leadsTo 60 = .ok (.getfield 113, 3) := by decide +kernel
theorem dX9_leadsTo_63 : decode cX9_leadsTo 63 = .ok (.iload 5, 2) := by decide +kernel
theorem dX9_leadsTo_65 : decode cX9_leadsTo 65 = .ok (.iaload, 1) := by decide +kernel
theorem dX9_leadsTo_66 : decode cX9_leadsTo 66 = .ok (.istore 6, 2) := by decide +kernel
theorem dX9_leadsTo_68 : decode cX9_leadsTo 68 = .ok (.aload_n 0, 1) := by decide +kernel
theorem dX9_leadsTo_69 : decode cX9_leadsTo 69 = .ok (.getfield 37, 3) := by decide +kernel
theorem dX9_leadsTo_72 : decode cX9_leadsTo 72 = .ok (.bipush 12, 2) := by decide +kernel
theorem dX9_leadsTo_74 : decode cX9_leadsTo 74 = .ok (.iload_n 1, 1) := by decide +kernel
theorem dX9_leadsTo_75 : decode cX9_leadsTo 75 = .ok (.imul, 1) := by decide +kernel
theorem dX9_leadsTo_76 : decode cX9_leadsTo 76 = .ok (.iload 5, 2) := by decide +kernel
theorem dX9_leadsTo_78 : decode cX9_leadsTo 78 = .ok (.iadd, 1) := by decide +kernel
theorem dX9_leadsTo_79 : decode cX9_leadsTo 79 = .ok (.iaload, 1) := by decide +kernel
theorem dX9_leadsTo_80 : decode cX9_leadsTo 80 = .ok (.ifCond .ne 10, 3) := by decide +kernel
theorem dX9_leadsTo_83 : decode cX9_leadsTo 83 = .ok (.iload 6, 2) := by decide +kernel
theorem dX9_leadsTo_85 : decode cX9_leadsTo 85 = .ok (.iconst 1, 1) := by decide +kernel
theorem dX9_leadsTo_86 : decode cX9_leadsTo 86 = .ok (.iadd, 1) := by decide +kernel
theorem dX9_leadsTo_87 : decode cX9_leadsTo 87 = .ok (.goto 25, 3) := by decide +kernel
theorem dX9_leadsTo_9 : decode cX9_leadsTo 9 = .ok (.aload_n 0, 1) := by decide +kernel
theorem dX9_leadsTo_90 : decode cX9_leadsTo 90 = .ok (.aload_n 0, 1) := by decide +kernel
theorem dX9_leadsTo_91 : decode cX9_leadsTo 91 = .ok (.getfield 113, 3) := by decide +kernel
theorem dX9_leadsTo_94 : decode cX9_leadsTo 94 = .ok (.iload 5, 2) := by decide +kernel
theorem dX9_leadsTo_96 : decode cX9_leadsTo 96 = .ok (.iconst 1, 1) := by decide +kernel
theorem dX9_leadsTo_97 : decode cX9_leadsTo 97 = .ok (.iadd, 1) := by decide +kernel
theorem dX9_leadsTo_98 : decode cX9_leadsTo 98 = .ok (.aload_n 0, 1) := by decide +kernel
theorem dX9_leadsTo_99 : decode cX9_leadsTo 99 = .ok (.getfield 37, 3) := by decide +kernel
theorem gI9_ext {q p p' : Nat} {cl rg u1 u2 cl' rg' u1' u2' : Nat → Int32} (h : gI9 q cl rg u1 u2 p) (e1 : cl' p' = cl p) (e2 : rg' p' = rg p) (e3 : u1' p' = u1 p) (e4 : u2' p' = u2 p) : gI9 q cl' rg' u1' u2' p' := by
  unfold gI9 at h ⊢
  rw [e1, e2, e3, e4]
  exact h
theorem gPk_ext {kd cl rg u1 u2 sk kd' cl' rg' u1' u2' sk' : Nat → Int32} {b m : Nat} (h : gPk kd cl rg u1 u2 sk b m) (e0 : ∀ j, j < m → kd' (b + j) = kd (b + j)) (e1 : ∀ j, j < m → cl' (b + j) = cl (b + j)) (e2 : ∀ j, j < m → rg' (b + j) = rg (b + j)) (e3 : ∀ j, j < m → u1' (b + j) = u1 (b + j)) (e4 : ∀ j, j < m → u2' (b + j) = u2 (b + j)) (e5 : ∀ j, j < m → sk' (b + j) = sk (b + j)) : gPk kd' cl' rg' u1' u2' sk' b m := by
  obtain ⟨h1, h2, h3⟩ := h
  refine ⟨h1, by rw [gCn_ext e0]; exact h2, fun i hi => ?_⟩
  obtain ⟨q, a, b, c, d⟩ := h3 i hi
  refine ⟨q, a, by rw [e0 i hi]; exact b, gI9_ext c (e1 i hi) (e2 i hi) (e3 i hi) (e4 i hi), fun e => ?_⟩
  obtain ⟨y, y1, y2, y3⟩ := d e
  exact ⟨y, y1, by rw [e5 i hi]; exact y2, y3⟩
theorem gPk_0 {kd cl rg u1 u2 sk : Nat → Int32} {b : Nat} : gPk kd cl rg u1 u2 sk b 0 := ⟨by omega, Nat.zero_le _, fun i h => absurd h (Nat.not_lt_zero i)⟩
theorem gP9_0 {C Mn : Nat → Nat} {kd cl rg u1 u2 sk : Nat → Int32} {k : Nat} (h : gP9 C Mn kd cl rg u1 u2 sk 0) (hk : k < C 0) (h3 : k < 3) : gPk kd cl rg u1 u2 sk (12 * k) (Mn k) := by
  have := h k hk h3
  rw [show (36 * 0) + (12 * k) = 12 * k by omega, show (3 * 0) + k = k by omega] at this
  exact this
theorem gP9_ext {C Mn C' Mn' : Nat → Nat} {kd cl rg u1 u2 sk kd' cl' rg' u1' u2' sk' : Nat → Int32} (h : gP9 C Mn kd cl rg u1 u2 sk 0) (hC : C' 0 = C 0) (hM : ∀ j, j < 6 → Mn' j = Mn j) (hM6 : ∀ j, j < 3 → Mn j ≤ 6) (e0 : ∀ j, j < 72 → kd' j = kd j) (e1 : ∀ j, j < 72 → cl' j = cl j) (e2 : ∀ j, j < 72 → rg' j = rg j) (e3 : ∀ j, j < 72 → u1' j = u1 j) (e4 : ∀ j, j < 72 → u2' j = u2 j) (e5 : ∀ j, j < 72 → sk' j = sk j) : gP9 C' Mn' kd' cl' rg' u1' u2' sk' 0 := by
  intro k hk h3
  rw [hC] at hk
  have hm := hM6 k h3
  have hb : Mn ((3 * 0) + k) = Mn k := by congr 1; omega
  rw [show Mn' ((3 * 0) + k) = Mn ((3 * 0) + k) from hM _ (by omega)]
  exact gPk_ext (h k hk h3) (fun j hj => e0 _ (by omega)) (fun j hj => e1 _ (by omega)) (fun j hj => e2 _ (by omega)) (fun j hj => e3 _ (by omega)) (fun j hj => e4 _ (by omega)) (fun j hj => e5 _ (by omega))
def gB9 (C Mn : Nat → Nat) (kd cl rg u1 u2 sk : Nat → Int32) : Prop := (∀ j, j < 3 → C j ≤ 3) ∧ (∀ j, j < 9 → Mn j ≤ 12) ∧ (∀ j, j < 3 → Mn j ≤ 6) ∧ gP9 C Mn kd cl rg u1 u2 sk 0
def gSm (kd kd9 : Nat → Int32) (C C9 Mn Mn9 : Nat → Nat) : Prop := C9 0 = C 0 ∧ (∀ j, j < 36 → kd9 j = kd j) ∧ (∀ j, j < 3 → Mn9 j = Mn j)
/-- where INS i comes to lie -/
def gOw (x y : Int32) (k : Nat) (mv : Nat → Nat) (i : Nat) : Nat := if (x = nI ((10 * k) + i) ∨ y = nI ((10 * k) + i)) ∧ 0 < i then mv i + 1 else mv i
theorem gOw_le {x y : Int32} {k i : Nat} {mv : Nat → Nat} : mv i ≤ gOw x y k mv i ∧ gOw x y k mv i ≤ mv i + 1 := by
  unfold gOw
  split <;> omega
theorem gOw_ext {x y : Int32} {k i : Nat} {mv mv' : Nat → Nat} (h : mv' i = mv i) : gOw x y k mv' i = gOw x y k mv i := by
  unfold gOw
  rw [h]
def gMvd (x y : Int32) (k n had : Nat) (mv : Nat → Nat) : Prop := mv 0 = 0 ∧ (∀ i, i < had → mv (i + 1) = gOw x y k mv i + 1) ∧ mv had = n
theorem gMvd_0 {x y : Int32} {k : Nat} {mv : Nat → Nat} : gMvd x y k 0 0 (updN mv 0 0) := ⟨updN_s, fun i h => absurd h (Nat.not_lt_zero i), updN_s⟩
theorem gMvd_s {x y : Int32} {k n i n' : Nat} {mv : Nat → Nat} (h : gMvd x y k n i (updN mv i n)) (hn : n' = gOw x y k (updN mv i n) i + 1) : gMvd x y k n' (i + 1) (updN (updN mv i n) (i + 1) n') := by
  obtain ⟨h1, h2, h3⟩ := h
  refine ⟨by rw [updN_n (by omega)]; exact h1, fun j hj => ?_, updN_s⟩
  by_cases e : j = i
  · subst e
    rw [updN_s, gOw_ext (mv := updN mv j n) (updN_n (by omega))]
    exact hn
  · rw [updN_n (by omega), gOw_ext (mv := updN mv i n) (updN_n (by omega))]
    exact h2 j (by omega)
theorem gMvd_mono {x y : Int32} {k n had : Nat} {mv : Nat → Nat} (h : gMvd x y k n had mv) : ∀ {i j : Nat}, i ≤ j → j ≤ had → mv i ≤ mv j := by
  intro i j hij
  induction j with
  | zero => intro _; rw [Nat.le_zero.mp hij]; exact Nat.le_refl _
  | succ j ih =>
    intro hj
    by_cases e : i = j + 1
    · subst e; exact Nat.le_refl _
    · have h1 := ih (by omega) (by omega)
      have h2 := h.2.1 j (by omega)
      have h3 := (gOw_le (x := x) (y := y) (k := k) (i := j) (mv := mv)).1
      omega
theorem gMvd_two {x y : Int32} {k n had : Nat} {mv : Nat → Nat} (h : gMvd x y k n had mv) : ∀ {i : Nat}, i ≤ had → mv i ≤ 2 * i := by
  intro i
  induction i with
  | zero => intro _; rw [h.1]; exact Nat.le_refl _
  | succ i ih =>
    intro hi
    have h1 := ih (by omega)
    have h2 := h.2.1 i (by omega)
    have h3 := (gOw_le (x := x) (y := y) (k := k) (i := i) (mv := mv)).2
    omega
theorem gOw_lt {x y : Int32} {k n had i j : Nat} {mv : Nat → Nat} (h : gMvd x y k n had mv) (hij : i < j) (hj : j < had) : gOw x y k mv i < gOw x y k mv j := by
  have h1 := h.2.1 i (by omega)
  have h2 := gMvd_mono h (show i + 1 ≤ j by omega) (by omega)
  have h3 := (gOw_le (x := x) (y := y) (k := k) (i := j) (mv := mv)).1
  omega
def gLt (kd sk : Nat → Int32) (x y : Int32) (k : Nat) (mv : Nat → Nat) (n i : Nat) : Prop := ∀ j, j < i → kd ((12 * k) + j) = 8 → ∃ u, u ≤ 11 ∧ sk ((72 + (12 * k)) + gOw x y k mv j) = nI u ∧ gOw x y k mv j + 1 + u ≤ n
theorem gLt_s {kd sk : Nat → Int32} {x y : Int32} {k n i had o t a : Nat} {mv : Nat → Nat} (h : gLt kd sk x y k mv n i) (hm : gMvd x y k n had mv) (hi : i < had) (ho : gOw x y k mv i = o) (ha : a = (72 + (12 * k)) + o) (ht : o + 1 ≤ t) (htn : t ≤ n) (hn : n ≤ 12) : gLt kd (upd sk a (nI (t - o - 1))) x y k mv n (i + 1) := by
  subst ho
  subst ha
  intro j hj hk
  by_cases e : j = i
  · subst e
    exact ⟨_, by omega, pk_us, by omega⟩
  · have := gOw_lt hm (show j < i by omega) hi
    rw [pk_un (by omega)]
    exact h j (by omega) hk
theorem gLt_n {kd sk : Nat → Int32} {x y : Int32} {k n i : Nat} {mv : Nat → Nat} (h : gLt kd sk x y k mv n i) (hk : ¬ kd ((12 * k) + i) = 8) : gLt kd sk x y k mv n (i + 1) := by
  intro j hj h8
  by_cases e : j = i
  · subst e; exact absurd h8 hk
  · exact h j (by omega) h8
def wsP_e_isPut9 : List Cond := .code yX9_isPut cX9_isPut 3 (some .boolean) :: (([]) ++ [])
theorem gW_e_isPut9 : wsP_e_isPut9.all goodWord = true := by unfold wsP_e_isPut9; exact gw_mk (by decide +kernel) rfl
set_option maxHeartbeats 4000000 in
set_option maxRecDepth 100000 in
theorem e_isPut9 (l : Launch) (D : va_G) (cI cB cZ : ClassId) (x : Int32) (y : Int32) (u : Int32)  : gMi l yX9_isPut wsP_e_isPut9 ({ frames := 0, cells := 0, slots := 0, locals := 0 }) D cI cB cZ [] [.int x, .int y, .int u] [] (fun r9 w9 => r9 = (if x = u ∨ y = u then 1 else 0) ∧ w9 = []) := by
  refine gMi.of (cc := cX9_isPut) (maxL := 3) (ret := (some .boolean)) (by decide) rfl (Nat.le_of_ble_eq_true rfl) (fun p e s m below meth c A ls hx hb hr hlk hml hts hown hin hA hP hK hD hS hN hl => ?_)
  have hown : s.vm.findClass RX9 = some m.cls := hown
  have hl : lv_has ls 3 [(0, .int x), (1, .int y), (2, .int u)] := hl
  refine lv_iload_n hx hb dX9_isPut_0 rfl (lv_at hl 0 rfl) ?_
  refine lv_iload_n hx hb dX9_isPut_1 rfl (lv_at hl 2 rfl) ?_
  refine lv_icmp_eq (tgt := 10) hx hb dX9_isPut_2 (by decide) (fun c_1 => ?_) (fun c_1 => ?_)
  · refine lv_iconst (v := 1) hx hb dX9_isPut_10 (by decide) ?_
    refine lv_goto (tgt := 15) hx hb dX9_isPut_11 (by decide) ?_
    exact gx_zret (w' := []) hx hb hr hlk hK hP hD hS (Nat.le_of_ble_eq_true rfl) (Nat.le_of_ble_eq_true rfl) dX9_isPut_15 rfl ⟨(by first | exact (if_pos (Or.inl c_1)).symm | exact (if_pos (Or.inr True.intro)).symm | exact (if_neg (fun h => h.elim c_1 True.intro)).symm), rfl⟩
  · refine lv_iload_n hx hb dX9_isPut_5 rfl (lv_at hl 1 rfl) ?_
    refine lv_iload_n hx hb dX9_isPut_6 rfl (lv_at hl 2 rfl) ?_
    refine lv_icmp_ne (tgt := 14) hx hb dX9_isPut_7 (by decide) (fun c_2 => ?_) (fun c_2 => ?_)
    · refine lv_iconst (v := 0) hx hb dX9_isPut_14 (by decide) ?_
      exact gx_zret (w' := []) hx hb hr hlk hK hP hD hS (Nat.le_of_ble_eq_true rfl) (Nat.le_of_ble_eq_true rfl) dX9_isPut_15 rfl ⟨(by first | exact (if_pos (Or.inl c_1)).symm | exact (if_pos (Or.inr c_2)).symm | exact (if_neg (fun h => h.elim c_1 c_2)).symm), rfl⟩
    · refine lv_iconst (v := 1) hx hb dX9_isPut_10 (by decide) ?_
      refine lv_goto (tgt := 15) hx hb dX9_isPut_11 (by decide) ?_
      exact gx_zret (w' := []) hx hb hr hlk hK hP hD hS (Nat.le_of_ble_eq_true rfl) (Nat.le_of_ble_eq_true rfl) dX9_isPut_15 rfl ⟨(by first | exact (if_pos (Or.inl c_1)).symm | exact (if_pos (Or.inr c_2)).symm | exact (if_neg (fun h => h.elim c_1 c_2)).symm), rfl⟩