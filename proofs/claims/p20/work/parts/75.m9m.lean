theorem dX9_goes_0 : decode cX9_goes 0 = .ok (.iload_n 1, 1) := by decide +kernel
theorem dX9_goes_1 : decode cX9_goes 1 = .ok (.invokestatic 267, 3) := by decide +kernel
theorem dX9_goes_101 : decode cX9_goes 101 = .ok (.iload_n 2, 1) := by decide +kernel
theorem dX9_goes_102 : decode cX9_goes 102 = .ok (.iconst 2, 1) := by decide +kernel
theorem dX9_goes_103 : decode cX9_goes 103 = .ok (.iadd, 1) := by decide +kernel
theorem dX9_goes_104 : decode cX9_goes 104 = .ok (.iconst 2, 1) := by decide +kernel
theorem dX9_goes_105 : decode cX9_goes 105 = .ok (.aload_n 0, 1) := by decide +kernel
theorem dX9_goes_106 : decode cX9_goes 106 = .ok (.getfield 75, 3) := by decide +kernel
theorem dX9_goes_109 : decode cX9_goes 109 = .ok (.iload_n 2, 1) := by decide +kernel
theorem dX9_goes_11 : decode cX9_goes 11 = .ok (.aload_n 0, 1) := by decide +kernel
theorem dX9_goes_110 : decode cX9_goes 110 = .ok (.iaload, 1) := by decide +kernel
theorem dX9_goes_111 : decode cX9_goes 111 = .ok (.imul, 1) := by decide +kernel
theorem dX9_goes_112 : decode cX9_goes 112 = .ok (.iadd, 1) := by decide +kernel
theorem dX9_goes_113 : decode cX9_goes 113 = .ok (.iconst 0, 1) := by decide +kernel
theorem dX9_goes_114 : decode cX9_goes 114 = .ok (.iastore, 1) := by decide +kernel
theorem dX9_goes_115 : decode cX9_goes 115 = .ok (.return_, 1) := by decide +kernel
theorem dX9_goes_12 : decode cX9_goes 12 = .ok (.getfield 75, 3) := by decide +kernel
theorem dX9_goes_15 : decode cX9_goes 15 = .ok (.iload_n 2, 1) := by decide +kernel
theorem dX9_goes_16 : decode cX9_goes 16 = .ok (.iconst 1, 1) := by decide +kernel
theorem dX9_goes_17 : decode cX9_goes 17 = .ok (.iadd, 1) := by decide +kernel
theorem dX9_goes_18 : decode cX9_goes 18 = .ok (.iaload, 1) := by decide +kernel
theorem dX9_goes_19 : decode cX9_goes 19 = .ok (.iadd, 1) := by decide +kernel
theorem dX9_goes_20 : decode cX9_goes 20 = .ok (.aload_n 0, 1) := by decide +kernel
theorem dX9_goes_21 : decode cX9_goes 21 = .ok (.getfield 75, 3) := by decide +kernel
theorem dX9_goes_24 : decode cX9_goes 24 = .ok (.iload_n 2, 1) := by decide +kernel
theorem dX9_goes_25 : decode cX9_goes 25 = .ok (.iconst 2, 1) := by decide +kernel
theorem dX9_goes_26 : decode cX9_goes 26 = .ok (.iadd, 1) := by decide +kernel
theorem dX9_goes_27 : decode cX9_goes 27 = .ok (.iaload, 1) := by decide +kernel
theorem dX9_goes_28 : decode cX9_goes 28 = .ok (.iastore, 1) := by decide +kernel
theorem dX9_goes_29 : decode cX9_goes 29 = .ok (.aload_n 0, 1) := by decide +kernel
theorem dX9_goes_30 : decode cX9_goes 30 = .ok (.getfield 75, 3) := by decide +kernel
theorem dX9_goes_33 : decode cX9_goes 33 = .ok (.iload_n 2, 1) := by decide +kernel
theorem dX9_goes_34 : decode cX9_goes 34 = .ok (.dup2, 1) := by decide +kernel
theorem dX9_goes_35 : decode cX9_goes 35 = .ok (.iaload, 1) := by decide +kernel
theorem dX9_goes_36 : decode cX9_goes 36 = .ok (.iconst 1, 1) := by decide +kernel
theorem dX9_goes_37 : decode cX9_goes 37 = .ok (.isub, 1) := by decide +kernel
theorem dX9_goes_38 : decode cX9_goes 38 = .ok (.iastore, 1) := by decide +kernel
theorem dX9_goes_39 : decode cX9_goes 39 = .ok (.iconst 0, 1) := by decide +kernel
theorem dX9_goes_4 : decode cX9_goes 4 = .ok (.istore_n 2, 1) := by decide +kernel
theorem dX9_goes_40 : decode cX9_goes 40 = .ok (.istore_n 3, 1) := by decide +kernel
theorem dX9_goes_41 : decode cX9_goes 41 = .ok (.iload_n 3, 1) := by decide +kernel
theorem dX9_goes_42 : decode cX9_goes 42 = .ok (.iconst 2, 1) := by decide +kernel
theorem dX9_goes_43 : decode cX9_goes 43 = .ok (.aload_n 0, 1) := by decide +kernel
theorem dX9_goes_44 : decode cX9_goes 44 = .ok (.getfield 75, 3) := by decide +kernel
theorem dX9_goes_47 : decode cX9_goes 47 = .ok (.iload_n 2, 1) := by decide +kernel
theorem dX9_goes_48 : decode cX9_goes 48 = .ok (.iaload, 1) := by decide +kernel
theorem dX9_goes_49 : decode cX9_goes 49 = .ok (.imul, 1) := by decide +kernel
theorem dX9_goes_5 : decode cX9_goes 5 = .ok (.aload_n 0, 1) := by decide +kernel
theorem dX9_goes_50 : decode cX9_goes 50 = .ok (.if_icmp .ge 29, 3) := by decide +kernel
theorem dX9_goes_53 : decode cX9_goes 53 = .ok (.aload_n 0, 1) := by decide +kernel
theorem dX9_goes_54 : decode cX9_goes 54 = .ok (.getfield 75, 3) := by decide +kernel
theorem dX9_goes_57 : decode cX9_goes 57 = .ok (.iload_n 2, 1) := by decide +kernel
theorem dX9_goes_58 : decode cX9_goes 58 = .ok (.iconst 1, 1) := by decide +kernel
theorem dX9_goes_59 : decode cX9_goes 59 = .ok (.iadd, 1) := by decide +kernel
theorem dX9_goes_6 : decode cX9_goes 6 = .ok (.getfield 75, 3) := by decide +kernel
theorem dX9_goes_60 : decode cX9_goes 60 = .ok (.iload_n 3, 1) := by decide +kernel
theorem dX9_goes_61 : decode cX9_goes 61 = .ok (.iadd, 1) := by decide +kernel
theorem dX9_goes_62 : decode cX9_goes 62 = .ok (.aload_n 0, 1) := by decide +kernel
theorem dX9_goes_63 : decode cX9_goes 63 = .ok (.getfield 75, 3) := by decide +kernel
theorem dX9_goes_66 : decode cX9_goes 66 = .ok (.iload_n 2, 1) := by decide +kernel
theorem dX9_goes_67 : decode cX9_goes 67 = .ok (.iconst 3, 1) := by decide +kernel
theorem dX9_goes_68 : decode cX9_goes 68 = .ok (.iadd, 1) := by decide +kernel
theorem dX9_goes_69 : decode cX9_goes 69 = .ok (.iload_n 3, 1) := by decide +kernel
theorem dX9_goes_70 : decode cX9_goes 70 = .ok (.iadd, 1) := by decide +kernel
theorem dX9_goes_71 : decode cX9_goes 71 = .ok (.iaload, 1) := by decide +kernel
theorem dX9_goes_72 : decode cX9_goes 72 = .ok (.iastore, 1) := by decide +kernel
theorem dX9_goes_73 : decode cX9_goes 73 = .ok (.iinc 3 1, 3) := by decide +kernel
theorem dX9_goes_76 : decode cX9_goes 76 = .ok (.goto (-35), 3) := by decide +kernel
theorem dX9_goes_79 : decode cX9_goes 79 = .ok (.aload_n 0, 1) := by decide +kernel
theorem dX9_goes_80 : decode cX9_goes 80 = .ok (.getfield 75, 3) := by decide +kernel
theorem dX9_goes_83 : decode cX9_goes 83 = .ok (.iload_n 2, 1) := by decide +kernel
theorem dX9_goes_84 : decode cX9_goes 84 = .ok (.iconst 1, 1) := by decide +kernel
theorem dX9_goes_85 : decode cX9_goes 85 = .ok (.iadd, 1) := by decide +kernel
theorem dX9_goes_86 : decode cX9_goes 86 = .ok (.iconst 2, 1) := by decide +kernel
theorem dX9_goes_87 : decode cX9_goes 87 = .ok (.aload_n 0, 1) := by decide +kernel
theorem dX9_goes_88 : decode cX9_goes 88 = .ok (.getfield 75, 3) := by decide +kernel
theorem dX9_goes_9 : decode cX9_goes 9 = .ok (.bipush 12, 2) := by decide +kernel
theorem dX9_goes_91 : decode cX9_goes 91 = .ok (.iload_n 2, 1) := by decide +kernel
theorem dX9_goes_92 : decode cX9_goes 92 = .ok (.iaload, 1) := by decide +kernel
theorem dX9_goes_93 : decode cX9_goes 93 = .ok (.imul, 1) := by decide +kernel
theorem dX9_goes_94 : decode cX9_goes 94 = .ok (.iadd, 1) := by decide +kernel
theorem dX9_goes_95 : decode cX9_goes 95 = .ok (.iconst 0, 1) := by decide +kernel
theorem dX9_goes_96 : decode cX9_goes 96 = .ok (.iastore, 1) := by decide +kernel
theorem dX9_goes_97 : decode cX9_goes 97 = .ok (.aload_n 0, 1) := by decide +kernel
theorem dX9_goes_98 : decode cX9_goes 98 = .ok (.getfield 75, 3) := by decide +kernel
def gGo (w g : Nat → Int32) (k r i : Nat) : Prop := (∀ j, (j < 12 ∨ 16 ≤ j) → (j < 16 + 13 * k ∨ 29 + 13 * k ≤ j) → g j = w j) ∧ g (16 + (13 * k)) = nI r ∧ (∀ t, t < i → g (17 + 13 * k + t) = w (19 + 13 * k + t)) ∧ (∀ t, i ≤ t → t < 12 → g (17 + 13 * k + t) = w (17 + 13 * k + t))
theorem gGo_0 {w : Nat → Int32} {k r x : Nat} {v : Int32} (hx : x < 4) : gGo w (upd (upd w (12 + x) v) (16 + (13 * k)) (nI r)) k r 0 := by
  refine ⟨fun j h1 h2 => ?_, pk_us, fun t ht => absurd ht (Nat.not_lt_zero t), fun t _ ht => ?_⟩
  · rw [pk_un (by omega), pk_un (by omega)]
  · rw [pk_un (by omega), pk_un (by omega)]
theorem gGo_step {w g : Nat → Int32} {k r i a b : Nat} (h : gGo w g k r i) (hi : i < 10) (ha : a = 17 + 13 * k + i) (hb : b = 19 + 13 * k + i) : gGo w (upd g a (g b)) k r (i + 1) := by
  obtain ⟨h1, h2, h3, h4⟩ := h
  have e : g b = w (19 + 13 * k + i) := by
    have := h4 (i + 2) (by omega) (by omega)
    rw [hb, show 19 + 13 * k + i = 17 + 13 * k + (i + 2) by omega]
    exact this
  refine ⟨fun j q1 q2 => ?_, ?_, fun t ht => ?_, fun t q1 q2 => ?_⟩
  · rw [pk_un (by omega)]; exact h1 j q1 q2
  · rw [pk_un (by omega)]; exact h2
  · by_cases e2 : t = i
    · subst e2; rw [ha, pk_us]; exact e
    · rw [pk_un (by omega)]; exact h3 t (by omega)
  · rw [pk_un (by omega)]; exact h4 t (by omega) q2
theorem gGo_end {w g : Nat → Int32} {nx rz : Nat → Nat} {k a b : Nat} (hG : gW9 w nx rz) (hk : k < 3) (hr : 0 < rz k) (h : gGo w g k (rz k - 1) (2 * (rz k - 1))) (ha : a = 17 + 13 * k + 2 * (rz k - 1)) (hb : b = 18 + 13 * k + 2 * (rz k - 1)) : gW9 (upd (upd g a 0) b 0) nx (updN rz k (rz k - 1)) := by
  obtain ⟨h1, h2, h3, h4⟩ := h
  have h6 := (hG k hk).2.2.2.1
  intro j hj
  obtain ⟨e1, e2, e3, e4, e5⟩ := hG j hj
  refine ⟨?_, ?_, e3, ?_, fun i hi => ?_⟩
  · rw [pk_un (by omega), pk_un (by omega), h1 j (by omega) (by omega)]; exact e1
  · by_cases q : j = k
    · subst q; rw [pk_un (by omega), pk_un (by omega), updN_s]; exact h2
    · rw [pk_un (by omega), pk_un (by omega), updN_n q, h1 _ (by omega) (by omega)]; exact e2
  · by_cases q : j = k
    · subst q; rw [updN_s]; omega
    · rw [updN_n q]; exact e4
  · by_cases q : j = k
    · subst q
      rw [updN_s] at hi
      obtain ⟨x, u, v⟩ := e5 (i + 1) (by omega)
      refine ⟨x, u, ?_⟩
      rw [pk_un (by omega), pk_un (by omega), show ((16 + (13 * j)) + 1) + (2 * i) = 17 + 13 * j + 2 * i by omega, h3 (2 * i) (by omega), ← v]
      congr 1; omega
    · rw [updN_n q] at hi
      obtain ⟨x, u, v⟩ := e5 i hi
      refine ⟨x, u, ?_⟩
      rw [pk_un (by omega), pk_un (by omega), h1 _ (by omega) (by omega)]
      exact v