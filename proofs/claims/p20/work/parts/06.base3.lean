def updN (L : Nat → Nat) (i v : Nat) : Nat → Nat := fun j => if j = i then v else L j
theorem updN_s {L : Nat → Nat} {i v : Nat} : updN L i v i = v := if_pos rfl
theorem updN_n {L : Nat → Nat} {i v j : Nat} (h : j ≠ i) : updN L i v j = L j := if_neg h
theorem gy_updN (L : Nat → Nat) (i v : Nat) : upd (fun j => nI (L j)) i (nI v) = fun j => nI (updN L i v j) := by
  funext j
  by_cases h : j = i
  · subst h; rw [pk_us, updN_s]
  · rw [pk_un h, updN_n h]
section GZ
variable {p : Program} {l : Launch} {e : Env} {R : Room} {s : State} {m : MethodId} {args : Array Value} {below : List Frame} {meth : Method} {c : Code} {H H0 : Heap} {locs : List Loc} {cells slots : Nat} {Q : State → Prop}
variable {pc : Nat} {ls : Array Slot} {rest st0 : List Value} {A : Nat → Prop} {D : va_G} {cI cB cZ : ClassId} {ws : va_W} {cc : ByteArray}
theorem gy_istN (hexec : p.tables.exec = Jvm.exec) (hb : c.code = cc) (hK : va_K D vwCl (gTy cI cB cZ) s) (hP : va_P D vwCl ws H) (hD : va_D A ws) (hS : va_S A H0 H locs) (q0 : Nat) {a n i v : Nat} {L : Nat → Nat} (ha : ws[q0]? = some (a, .inl (cI, n, .inl (fun j => nI (L j))))) (hn : n < 2 ^ 31) (hi : i < n) (hdg : decode cc pc = .ok (.iastore, 1))
    (kk : ∀ (H1 : Heap) (locs1 : List Loc), va_P D vwCl (ws.set q0 (a, .inl (cI, n, .inl (fun j => nI (updN L i v j))))) H1 → va_D A (ws.set q0 (a, .inl (cI, n, .inl (fun j => nI (updN L i v j))))) → va_S A H0 H1 locs1 → W p l e R s m args below meth c H1 locs1 cells slots Q (F0 m (pc + 1) ls rest)) : W p l e R s m args below meth c H locs cells slots Q (F0 m pc ls (.int (nI v) :: .int (nI i) :: .ref a :: rest)) := by
  refine gy_ist hexec hb hK hP hD hS q0 ha hn hi hdg ?_
  rw [gy_updN]
  exact kk
end GZ
theorem gy_fillp {g : Nat → Int32} {i : Nat} {x : Int32} (h : ∀ j, j < i → g j = x) : ∀ j, j < i + 1 → upd g i x j = x := by
  intro j hj
  by_cases e : j = i
  · subst e; exact pk_us
  · rw [pk_un e]; exact h j (by omega)
theorem gy_cell {cA : ClassId} {n : Nat} {f g : Nat → Int32} (h : ∀ j, j < n → f j = g j) : vp_cell cA (n, .inl f) = vp_cell cA (n, .inl g) := by
  show arrV cA n (fun j => .int (f j)) = arrV cA n (fun j => .int (g j))
  have e : (Array.ofFn (n := n) fun j => Value.int (f j.val)) = (Array.ofFn (n := n) fun j => Value.int (g j.val)) := by
    congr 1
    funext j
    rw [h j.val j.isLt]
  show ({ cls := cA, slots := Array.ofFn (n := n) fun j => Value.int (f j.val), vm := .none } : Cell) = { cls := cA, slots := Array.ofFn (n := n) fun j => Value.int (g j.val), vm := .none }
  rw [e]
/-- an array's contents in other words -/
theorem gy_ext {D : va_G} {cl : List vw_C} {ws : va_W} {H : Heap} (hP : va_P D cl ws H) (q0 : Nat) {a n : Nat} {cA : ClassId} {f : Nat → Int32} (ha : ws[q0]? = some (a, .inl (cA, n, .inl f))) (g : Nat → Int32) (h : ∀ j, j < n → f j = g j) : va_P D cl (ws.set q0 (a, .inl (cA, n, .inl g))) H := by
  intro k q hk
  by_cases e : k = q0
  · subst e
    have hlt : k < ws.length := (List.getElem?_eq_some_iff.mp ha).1
    rw [List.getElem?_set_self hlt] at hk
    cases hk
    have h1 : H[a]? = some (vp_cell cA (n, .inl f)) := hP k _ ha
    show H[a]? = some (vp_cell cA (n, .inl g))
    rw [h1, gy_cell h]
  · rw [List.getElem?_set_ne (fun q => e q.symm)] at hk
    exact hP k q hk
theorem gy_extD {A : Nat → Prop} {ws : va_W} (hD : va_D A ws) (q0 : Nat) {a : Nat} {x y : va_E} (ha : ws[q0]? = some (a, x)) : va_D A (ws.set q0 (a, y)) := by
  have hlt : q0 < ws.length := (List.getElem?_eq_some_iff.mp ha).1
  have ad : ∀ (k : Nat) (q : Nat × va_E), (ws.set q0 (a, y))[k]? = some q → ∃ q' : Nat × va_E, ws[k]? = some q' ∧ q'.1 = q.1 := by
    intro k q hk
    by_cases e : k = q0
    · subst e
      rw [List.getElem?_set_self hlt] at hk
      cases hk
      exact ⟨_, ha, rfl⟩
    · rw [List.getElem?_set_ne (fun q => e q.symm)] at hk
      exact ⟨q, hk, rfl⟩
  refine ⟨fun i j p q hi hj h => ?_, fun k q hk => ?_⟩
  · obtain ⟨p', h1, e1⟩ := ad i p hi
    obtain ⟨q', h2, e2⟩ := ad j q hj
    exact hD.1 i j p' q' h1 h2 (by rw [e1, e2, h])
  · obtain ⟨q', h1, e1⟩ := ad k q hk
    rw [← e1]
    exact hD.2 k q' h1
theorem gy_max0 {a : Nat} (h : a < 2 ^ 30) : (if (0 : Int32) < nI a - 1 then nI a - 1 else 0) = nI (a - 1) := by
  by_cases e : a = 0
  · subst e; decide
  · have h1 : nI a - 1 = nI (a - 1) := pk_sub (a := a) (b := 1) (by omega)
    rw [h1]
    by_cases e2 : a - 1 = 0
    · rw [e2]; decide
    · rw [if_pos]
      exact nI_lt (a := 0) (b := a - 1) (by omega) (by omega)
theorem gy_b0 {q : Prop} [Decidable q] (h : (if q then (1 : Int32) else 0) = 0) : ¬ q := fun x => by rw [if_pos x] at h; exact absurd h (by decide)
theorem gy_b1 {q : Prop} [Decidable q] (h : ¬ (if q then (1 : Int32) else 0) = 0) : q := by
  by_cases x : q
  · exact x
  · rw [if_neg x] at h; exact absurd rfl h
theorem gy_bn {q : Prop} [Decidable q] : narrow .boolean (.int (if q then (1 : Int32) else 0)) = .int (if q then (1 : Int32) else 0) := by
  by_cases x : q
  · rw [if_pos x]; rfl
  · rw [if_neg x]; rfl
section GZ2
variable {p : Program} {l : Launch} {e : Env} {R : Room} {s : State} {m : MethodId} {args : Array Value} {below : List Frame} {meth : Method} {c : Code} {H H0 : Heap} {locs : List Loc} {cells slots : Nat} {Q : State → Prop}
variable {pc : Nat} {ls : Array Slot} {rest st0 : List Value} {A : Nat → Prop} {D : va_G} {cI cB cZ : ClassId} {ws : va_W} {cc : ByteArray}
theorem gy_copyi (hexec : p.tables.exec = Jvm.exec) (hb : c.code = cc) (hml : c.maxLocals = ls.size) {own : String} {index : Nat} (hown : s.vm.findClass own = some m.cls) (hlink : (Cond.methodLink own index arraycopyName).before args s = true) (hnat : (Cond.native arraycopyName).before args s = true) (hstat : (Cond.static arraycopyName).before args s = true) (hini : (Cond.initialized "java/lang/System").before args s = true)
    (hK : va_K D vwCl (gTy cI cB cZ) s) (hP : va_P D vwCl ws H) (hD : va_D A ws) (hS : va_S A H0 H locs) (q0 q1 : Nat) {a a0 : Nat} {n0 n1 : Nat} {f g : Nat → Int32} (ha0 : ws[q0]? = some (a0, .inl (cI, n0, .inl f))) (ha1 : ws[q1]? = some (a, .inl (cI, n1, .inl g)))
    {sp dp n : Nat} (h1 : sp < 2 ^ 31) (h2 : dp < 2 ^ 31) (h3 : n < 2 ^ 31) (h4 : sp + n ≤ n0) (h5 : dp + n ≤ n1)
    (hframes : 1 ≤ R.frames) (hlocals : (rest.map fun v => v.category).sum + (nativeFrameWords "java/lang/System" "arraycopy" 5 + 11) ≤ R.locals) (hdg : decode cc pc = .ok (.invokestatic index, 3))
    (kk : ∀ (H1 : Heap) (locs1 : List Loc), va_P D vwCl (ws.set q1 (a, .inl (cI, n1, .inl (va_cpy f g sp dp n)))) H1 → va_D A (ws.set q1 (a, .inl (cI, n1, .inl (va_cpy f g sp dp n)))) → va_S A H0 H1 locs1 → W p l e R s m args below meth c H1 locs1 cells slots Q (F0 m (pc + 3) ls rest)) : W p l e R s m args below meth c H locs cells slots Q (F0 m pc ls (.int (nI n) :: .int (nI dp) :: .ref a :: .int (nI sp) :: .ref a0 :: rest)) := by
  refine va_copyi hexec hb hml hown hlink hnat hstat hini hK hP hD hS q0 q1 0 0 ha0 ha1 rfl rfl rfl (nI_pos h1) (nI_pos h2) (nI_pos h3) (by rw [nI_clamp h1, nI_clamp h3]; exact h4) (by rw [nI_clamp h2, nI_clamp h3]; exact h5) (fun _ _ => rfl) hframes hlocals hdg ?_
  rw [nI_clamp h1, nI_clamp h2, nI_clamp h3]
  exact kk
end GZ2
