/-! My own: the law's world in two parts: one that is laid open, one that is left aside. -/
theorem gq_gl {α : Type} {X pl : List α} {k : Nat} {q : α} (h : X[k]? = some q) : (X ++ pl)[k]? = some q := by
  rw [List.getElem?_append_left (List.getElem?_eq_some_iff.mp h).1]; exact h
theorem gq_gr {α : Type} {X pl : List α} {k : Nat} {q : α} (h : pl[k]? = some q) : (X ++ pl)[X.length + k]? = some q := by
  rw [List.getElem?_append_right (Nat.le_add_right _ _), Nat.add_sub_cancel_left]; exact h
theorem gq_ge {α : Type} {X pl : List α} {k : Nat} {q : α} (h : (X ++ pl)[k]? = some q) : X[k]? = some q ∨ pl[k - X.length]? = some q := by
  by_cases e : k < X.length
  · rw [List.getElem?_append_left e] at h; exact Or.inl h
  · rw [List.getElem?_append_right (by omega)] at h; exact Or.inr h
theorem gq_Pl {D : va_G} {cl : List vw_C} {X pl : va_W} {H : Heap} (h : va_P D cl (X ++ pl) H) : va_P D cl X H := fun k q hk => h k q (gq_gl hk)
theorem gq_Pr {D : va_G} {cl : List vw_C} {X pl : va_W} {H : Heap} (h : va_P D cl (X ++ pl) H) : va_P D cl pl H := fun k q hk => h _ q (gq_gr hk)
theorem gq_Pa {D : va_G} {cl : List vw_C} {X pl : va_W} {H : Heap} (h1 : va_P D cl X H) (h2 : va_P D cl pl H) : va_P D cl (X ++ pl) H := fun k q hk => by
  rcases gq_ge hk with h | h
  · exact h1 k q h
  · exact h2 _ q h
theorem gq_Dl {A : Nat → Prop} {X pl : va_W} (h : va_D A (X ++ pl)) : va_D A X := ⟨fun i j p q hi hj e => h.1 i j p q (gq_gl hi) (gq_gl hj) e, fun k q hk => h.2 k q (gq_gl hk)⟩
theorem gq_Dr {A : Nat → Prop} {X pl : va_W} (h : va_D A (X ++ pl)) : va_D A pl := ⟨fun i j p q hi hj e => by have := h.1 _ _ p q (gq_gr hi) (gq_gr hj) e; omega, fun k q hk => h.2 _ q (gq_gr hk)⟩
theorem gq_Dx {A : Nat → Prop} {X pl : va_W} (h : va_D A (X ++ pl)) : ∀ (i j : Nat) (p q : Nat × va_E), X[i]? = some p → pl[j]? = some q → p.1 ≠ q.1 := by
  intro i j p q hi hj e
  have h1 := h.1 _ _ p q (gq_gl hi) (gq_gr hj) e
  have h2 := (List.getElem?_eq_some_iff.mp hi).1
  omega
theorem gq_subP {D : va_G} {cl : List vw_C} {X X' pl : va_W} {H : Heap} (h : va_P D cl (X ++ pl) H) (is : List Nat) (hs : is.filterMap (fun i => X[i]?) = X') : va_P D cl (X' ++ pl) H := gq_Pa ((gq_Pl h).sub is hs) (gq_Pr h)
theorem gq_subD {A : Nat → Prop} {X X' pl : va_W} (h : va_D A (X ++ pl)) (is : List Nat) (hn : va_nd is = true) (hs : is.map (fun i => X[i]?) = X'.map some) : va_D A (X' ++ pl) := by
  refine va_D.app ((gq_Dl h).sub is hn hs) (gq_Dr h) (fun i j p q hi hj => ?_)
  have h1 : (is.map (fun i => X[i]?))[i]? = some (some p) := by rw [hs, List.getElem?_map, hi]; rfl
  rw [List.getElem?_map] at h1
  cases hk : is[i]? with
  | none => rw [hk] at h1; simp at h1
  | some k =>
    rw [hk] at h1
    have h2 : X[k]? = some p := by simpa using h1
    exact gq_Dx h k j p q h2 hj
theorem gq_swapP {D : va_G} {cl : List vw_C} {X pl : va_W} {H : Heap} (h : va_P D cl (X ++ pl) H) : va_P D cl (pl ++ X) H := gq_Pa (gq_Pr h) (gq_Pl h)
theorem gq_swapD {A : Nat → Prop} {X pl : va_W} (h : va_D A (X ++ pl)) : va_D A (pl ++ X) := va_D.app (gq_Dr h) (gq_Dl h) (fun i j p q hi hj e => gq_Dx h j i q p hj hi e.symm)
section GQ
variable {p : Program} {l : Launch} {e : Env} {R : Room} {s : State} {m : MethodId} {args : Array Value} {below : List Frame} {meth : Method} {c : Code} {H H0 : Heap} {locs : List Loc} {cells slots : Nat} {Q : State → Prop}
variable {pc : Nat} {ls : Array Slot} {rest st0 : List Value} {A : Nat → Prop} {D : va_G} {cI cB cZ : ClassId} {X pl : va_W} {cc : ByteArray}
theorem gq_goi {A0 : Nat → Prop} {wc wr : va_W} {post : Int32 → va_W → Prop} {a : Array Value} {mc ms : Nat} (hr : va_Run p l e R s m args below meth c H locs cells slots mc ms (F0 m pc ls st0) rest (va_Qi post (gX D cI cB cZ (va_A wc H.size)) (va_A wc H.size) a) (va_A wc H.size))
    (hP : va_P D vwCl (X ++ pl) H) (hD : va_D A0 (X ++ pl)) (hS : va_S A0 H0 H locs) (hA : ∀ q, H0.size ≤ q → A0 q) (isC isR : List Nat) (hC : isC.map (fun i => X[i]?) = wc.map some) (hR : isR.map (fun i => X[i]?) = wr.map some) (hn : va_nd isR = true) (hdis : ∀ i ∈ isR, i ∉ isC)
    (kk : ∀ (r : Int32) (w' : va_W) (H1 : Heap) (locs1 : List Loc), post r w' → va_P D vwCl ((wr ++ w') ++ pl) H1 → va_D A0 ((wr ++ w') ++ pl) → va_S A0 H0 H1 locs1 → W p l e R s m args below meth c H1 locs1 (cells + mc) (slots + ms) Q (F0 m (pc + 3) ls (.int r :: rest))) : W p l e R s m args below meth c H locs cells slots Q (F0 m pc ls st0) := by
  have hFc := va_free (wc := wc) (gq_Dl hD) hS hA isC hC
  refine va_calli hr hS (fun q _ h => hFc q h) hFc (fun r u t H1 locs ht hvm hw hB hz1 hk1 hS => ?_)
  obtain ⟨hP1, hK1, hD1⟩ := hB
  rw [ht] at hP1
  obtain ⟨hP, hD⟩ := va_joinQ hP hD isC isR hC hR hn hdis hk1 hFc hP1 hD1
  exact kk r u H1 locs hw hP hD hS
theorem gq_gowi {A0 : Nat → Prop} {wc wr : va_W} {post : Int32 → va_W → Nat → Nat → Prop} {a : Array Value} {mc ms : Nat} (hr : va_Run p l e R s m args below meth c H locs cells slots mc ms (F0 m pc ls st0) rest (va_Qi (fun r (u : va_W × Nat × Nat) => post r u.1 u.2.1 u.2.2) (gX2 D cI cB cZ (va_A wc H.size) H.size (gT H)) (va_A wc H.size) a) (va_A wc H.size))
    (hP : va_P D vwCl (X ++ pl) H) (hD : va_D A0 (X ++ pl)) (hS : va_S A0 H0 H locs) (hA : ∀ q, H0.size ≤ q → A0 q) (isC isR : List Nat) (hC : isC.map (fun i => X[i]?) = wc.map some) (hR : isR.map (fun i => X[i]?) = wr.map some) (hn : va_nd isR = true) (hdis : ∀ i ∈ isR, i ∉ isC)
    (kk : ∀ (r : Int32) (w' : va_W) (k n : Nat) (H1 : Heap) (locs1 : List Loc), post r w' k n → va_P D vwCl ((wr ++ w') ++ pl) H1 → va_D A0 ((wr ++ w') ++ pl) → va_S A0 H0 H1 locs1 → W p l e R s m args below meth c H1 locs1 (cells + k) (slots + n) Q (F0 m (pc + 3) ls (.int r :: rest))) : W p l e R s m args below meth c H locs cells slots Q (F0 m pc ls st0) := by
  refine gy_know (fun k1 k2 => ?_)
  have hFc := va_free (wc := wc) (gq_Dl hD) hS hA isC hC
  refine va_calli hr hS (fun q _ h => hFc q h) hFc (fun r u t H1 locs ht hvm hw hB hz1 hk1 hS => ?_)
  obtain ⟨w', k, n⟩ := u
  obtain ⟨⟨hP1, hK1, hD1⟩, e1, e2⟩ := hB
  rw [ht] at hP1 e1 e2
  have e1 : H1.size ≤ H.size + k := e1
  have e2 : gT H1 ≤ gT H + n := e2
  obtain ⟨hP, hD⟩ := va_joinQ hP hD isC isR hC hR hn hdis hk1 hFc hP1 hD1
  exact gy_lower (k := cells + k) (n := slots + n) (by omega) (by omega) (kk r w' k n H1 locs hw hP hD hS)
end GQ
