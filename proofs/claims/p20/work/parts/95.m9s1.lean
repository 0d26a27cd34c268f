theorem dX9_step_0 : decode cX9_step 0 = .ok (.aload_n 0, 1) := by decide +kernel
theorem dX9_step_1 : decode cX9_step 1 = .ok (.getfield 84, 3) := by decide +kernel
theorem dX9_step_10 : decode cX9_step 10 = .ok (.invokevirtual 341, 3) := by decide +kernel
theorem dX9_step_13 : decode cX9_step 13 = .ok (.aload_n 0, 1) := by decide +kernel
theorem dX9_step_14 : decode cX9_step 14 = .ok (.iconst 0, 1) := by decide +kernel
theorem dX9_step_15 : decode cX9_step 15 = .ok (.aload_n 0, 1) := by decide +kernel
theorem dX9_step_16 : decode cX9_step 16 = .ok (.getfield 84, 3) := by decide +kernel
theorem dX9_step_19 : decode cX9_step 19 = .ok (.iload_n 1, 1) := by decide +kernel
theorem dX9_step_20 : decode cX9_step 20 = .ok (.invokevirtual 310, 3) := by decide +kernel
theorem dX9_step_23 : decode cX9_step 23 = .ok (.ifCond .ne 5, 3) := by decide +kernel
theorem dX9_step_26 : decode cX9_step 26 = .ok (.iconst 0, 1) := by decide +kernel
theorem dX9_step_27 : decode cX9_step 27 = .ok (.ireturn, 1) := by decide +kernel
theorem dX9_step_28 : decode cX9_step 28 = .ok (.iconst 0, 1) := by decide +kernel
theorem dX9_step_29 : decode cX9_step 29 = .ok (.istore_n 2, 1) := by decide +kernel
theorem dX9_step_30 : decode cX9_step 30 = .ok (.iload_n 2, 1) := by decide +kernel
theorem dX9_step_31 : decode cX9_step 31 = .ok (.bipush 58, 2) := by decide +kernel
theorem dX9_step_33 : decode cX9_step 33 = .ok (.if_icmp .ge 29, 3) := by decide +kernel
theorem dX9_step_36 : decode cX9_step 36 = .ok (.aload_n 0, 1) := by decide +kernel
theorem dX9_step_37 : decode cX9_step 37 = .ok (.getfield 81, 3) := by decide +kernel
theorem dX9_step_4 : decode cX9_step 4 = .ok (.ifCond .ge 5, 3) := by decide +kernel
theorem dX9_step_40 : decode cX9_step 40 = .ok (.bipush 58, 2) := by decide +kernel
theorem dX9_step_42 : decode cX9_step 42 = .ok (.aload_n 0, 1) := by decide +kernel
theorem dX9_step_43 : decode cX9_step 43 = .ok (.getfield 227, 3) := by decide +kernel
theorem dX9_step_46 : decode cX9_step 46 = .ok (.imul, 1) := by decide +kernel
theorem dX9_step_47 : decode cX9_step 47 = .ok (.iload_n 2, 1) := by decide +kernel
theorem dX9_step_48 : decode cX9_step 48 = .ok (.iadd, 1) := by decide +kernel
theorem dX9_step_49 : decode cX9_step 49 = .ok (.aload_n 0, 1) := by decide +kernel
theorem dX9_step_50 : decode cX9_step 50 = .ok (.getfield 78, 3) := by decide +kernel
theorem dX9_step_53 : decode cX9_step 53 = .ok (.iload_n 2, 1) := by decide +kernel
theorem dX9_step_54 : decode cX9_step 54 = .ok (.iaload, 1) := by decide +kernel
theorem dX9_step_55 : decode cX9_step 55 = .ok (.iastore, 1) := by decide +kernel
theorem dX9_step_56 : decode cX9_step 56 = .ok (.iinc 2 1, 3) := by decide +kernel
theorem dX9_step_59 : decode cX9_step 59 = .ok (.goto (-29), 3) := by decide +kernel
theorem dX9_step_62 : decode cX9_step 62 = .ok (.aload_n 0, 1) := by decide +kernel
theorem dX9_step_63 : decode cX9_step 63 = .ok (.dup, 1) := by decide +kernel
theorem dX9_step_64 : decode cX9_step 64 = .ok (.getfield 227, 3) := by decide +kernel
theorem dX9_step_67 : decode cX9_step 67 = .ok (.iconst 1, 1) := by decide +kernel
theorem dX9_step_68 : decode cX9_step 68 = .ok (.iadd, 1) := by decide +kernel
theorem dX9_step_69 : decode cX9_step 69 = .ok (.putfield 227, 3) := by decide +kernel
theorem dX9_step_7 : decode cX9_step 7 = .ok (.iconst 0, 1) := by decide +kernel
theorem dX9_step_72 : decode cX9_step 72 = .ok (.aload_n 0, 1) := by decide +kernel
theorem dX9_step_73 : decode cX9_step 73 = .ok (.iconst 0, 1) := by decide +kernel
theorem dX9_step_74 : decode cX9_step 74 = .ok (.aload_n 0, 1) := by decide +kernel
theorem dX9_step_75 : decode cX9_step 75 = .ok (.getfield 84, 3) := by decide +kernel
theorem dX9_step_78 : decode cX9_step 78 = .ok (.iload_n 1, 1) := by decide +kernel
theorem dX9_step_79 : decode cX9_step 79 = .ok (.iconst 0, 1) := by decide +kernel
theorem dX9_step_8 : decode cX9_step 8 = .ok (.ireturn, 1) := by decide +kernel
theorem dX9_step_80 : decode cX9_step 80 = .ok (.invokevirtual 313, 3) := by decide +kernel
theorem dX9_step_83 : decode cX9_step 83 = .ok (.aload_n 0, 1) := by decide +kernel
theorem dX9_step_84 : decode cX9_step 84 = .ok (.invokevirtual 338, 3) := by decide +kernel
theorem dX9_step_87 : decode cX9_step 87 = .ok (.iconst 1, 1) := by decide +kernel
theorem dX9_step_88 : decode cX9_step 88 = .ok (.ireturn, 1) := by decide +kernel
theorem dX9_step_9 : decode cX9_step 9 = .ok (.aload_n 0, 1) := by decide +kernel
def gMh (kd : Nat → Int32) (Mn : Nat → Nat) (mo : Int32) (dn : Nat) (mf hf : Nat → Int32) : Prop := mo < 0 ∨ (gS9 kd Mn 0 mf dn ∧ ∀ j, j < dn → gS9 kd Mn 0 (fun i => hf ((58 * j) + i)) j)
theorem gMh_s {kd : Nat → Int32} {Mn : Nat → Nat} {mo : Int32} {dn : Nat} {mf hf m9 g : Nat → Int32} (h1 : gS9 kd Mn 0 mf dn) (h2 : ∀ j, j < dn → gS9 kd Mn 0 (fun i => hf ((58 * j) + i)) j) (hr : gRow g hf mf (58 * dn) 58) (h3 : gS9 kd Mn 0 m9 (dn + 1)) : gMh kd Mn mo (dn + 1) m9 g := by
  refine Or.inr ⟨h3, fun j hj => ?_⟩
  by_cases e : j = dn
  · subst e; exact gS9_ext h1 (fun i hi => hr.1 i hi)
  · exact gS9_ext (h2 j (by omega)) (fun i hi => hr.2 _ (by omega))
theorem gS9_36 {kd : Nat → Int32} {Mn : Nat → Nat} {w : Nat → Int32} {d : Nat} (h : gS9 kd Mn 0 w d) (hM : ∀ j, j < 3 → Mn j ≤ 6) : d ≤ 36 := by
  obtain ⟨nx, rz, _, _, hD⟩ := h
  have h0 : Mn ((3 * 0) + 0) ≤ 6 := hM 0 (by decide)
  have h1 : Mn ((3 * 0) + 1) ≤ 6 := hM 1 (by decide)
  have h2 : Mn ((3 * 0) + 2) ≤ 6 := hM 2 (by decide)
  omega
theorem gS9_sm {kd kd' : Nat → Int32} {C C' Mn Mn' : Nat → Nat} {w : Nat → Int32} {d : Nat} (h : gS9 kd Mn 0 w d) (hM : ∀ j, j < 3 → Mn j ≤ 6) (hs : gSm kd kd' C C' Mn Mn') : gS9 kd' Mn' 0 w d := by
  obtain ⟨nx, rz, hG, hR, hD⟩ := h
  have e0 : Mn' ((3 * 0) + 0) = Mn ((3 * 0) + 0) := hs.2.2 _ (by decide)
  have e1 : Mn' ((3 * 0) + 1) = Mn ((3 * 0) + 1) := hs.2.2 _ (by decide)
  have e2 : Mn' ((3 * 0) + 2) = Mn ((3 * 0) + 2) := hs.2.2 _ (by decide)
  refine ⟨nx, rz, hG, fun k hk => ?_, by rw [e0, e1, e2]; exact hD⟩
  have hm : Mn ((3 * 0) + k) ≤ 6 := by rw [show (3 * 0) + k = k by omega]; exact hM k hk
  rw [show Mn' ((3 * 0) + k) = Mn ((3 * 0) + k) from hs.2.2 _ (by omega), gCn_ext (kd := kd) (fun j hj => hs.2.1 _ (by omega))]
  exact hR k hk
theorem gMh_sm {kd kd' : Nat → Int32} {C C' Mn Mn' : Nat → Nat} {mo : Int32} {dn : Nat} {mf hf : Nat → Int32} (h : gMh kd Mn mo dn mf hf) (hM : ∀ j, j < 3 → Mn j ≤ 6) (hs : gSm kd kd' C C' Mn Mn') : gMh kd' Mn' mo dn mf hf := by
  rcases h with h | ⟨h1, h2⟩
  · exact Or.inl h
  · exact Or.inr ⟨gS9_sm h1 hM hs, fun j hj => gS9_sm (h2 j hj) hM hs⟩