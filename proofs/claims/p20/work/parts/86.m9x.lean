theorem dX9_explored_0 : decode cX9_explored 0 = .ok (.aload_n 0, 1) := by decide +kernel
theorem dX9_explored_1 : decode cX9_explored 1 = .ok (.getfield 66, 3) := by decide +kernel
theorem dX9_explored_10 : decode cX9_explored 10 = .ok (.iload_n 1, 1) := by decide +kernel
theorem dX9_explored_11 : decode cX9_explored 11 = .ok (.iconst 0, 1) := by decide +kernel
theorem dX9_explored_12 : decode cX9_explored 12 = .ok (.iload_n 1, 1) := by decide +kernel
theorem dX9_explored_13 : decode cX9_explored 13 = .ok (.iconst 0, 1) := by decide +kernel
theorem dX9_explored_14 : decode cX9_explored 14 = .ok (.invokevirtual 335, 3) := by decide +kernel
theorem dX9_explored_17 : decode cX9_explored 17 = .ok (.aload_n 0, 1) := by decide +kernel
theorem dX9_explored_18 : decode cX9_explored 18 = .ok (.getfield 62, 3) := by decide +kernel
theorem dX9_explored_21 : decode cX9_explored 21 = .ok (.iload_n 1, 1) := by decide +kernel
theorem dX9_explored_22 : decode cX9_explored 22 = .ok (.baload, 1) := by decide +kernel
theorem dX9_explored_23 : decode cX9_explored 23 = .ok (.ifCond .ne 7, 3) := by decide +kernel
theorem dX9_explored_26 : decode cX9_explored 26 = .ok (.iconst 1, 1) := by decide +kernel
theorem dX9_explored_27 : decode cX9_explored 27 = .ok (.goto 4, 3) := by decide +kernel
theorem dX9_explored_30 : decode cX9_explored 30 = .ok (.iconst 0, 1) := by decide +kernel
theorem dX9_explored_31 : decode cX9_explored 31 = .ok (.ireturn, 1) := by decide +kernel
theorem dX9_explored_4 : decode cX9_explored 4 = .ok (.iload_n 1, 1) := by decide +kernel
theorem dX9_explored_5 : decode cX9_explored 5 = .ok (.baload, 1) := by decide +kernel
theorem dX9_explored_6 : decode cX9_explored 6 = .ok (.ifCond .ne 11, 3) := by decide +kernel
theorem dX9_explored_9 : decode cX9_explored 9 = .ok (.aload_n 0, 1) := by decide +kernel
theorem gA9_x {mo : Nat} {df df9 : Nat → Int32} {S E S9 E9 : Nat → Nat} {fr en fr9 en9 : Nat → Int32} (hA : ∀ t, t < 2 → gA9 t df S E fr en) (h0 : mo < 2 → gT9 mo S9 E9 fr9 en9) (h1 : ∀ t, t < 3 → t ≠ mo → gT9 t S E fr en → gT9 t S9 E9 fr9 en9) (h2 : ∀ t, t ≠ mo → df9 t = df t) : ∀ t, t < 2 → gA9 t df9 S9 E9 fr9 en9 := by
  intro t ht
  by_cases e : t = mo
  · subst e; exact Or.inr (h0 ht)
  · rcases hA t ht with h | h
    · exact Or.inl ((h2 t e).trans h)
    · exact Or.inr (h1 t (by omega) e h)
theorem gT9_all {mo : Nat} {S E S9 E9 : Nat → Nat} {fr en fr9 en9 : Nat → Int32} (h0 : gT9 mo S9 E9 fr9 en9) (h1 : ∀ t, t < 3 → t ≠ mo → gT9 t S E fr en → gT9 t S9 E9 fr9 en9) : ∀ t, t < 3 → gT9 t S E fr en → gT9 t S9 E9 fr9 en9 := by
  intro t ht h
  by_cases e : t = mo
  · subst e; exact h0
  · exact h1 t ht e h
theorem gT9_le {t : Nat} {S E : Nat → Nat} {fr en : Nat → Int32} (h : gT9 t S E fr en) : E t ≤ S t ∧ S t ≤ 3000 := ⟨h.2.1, h.1⟩