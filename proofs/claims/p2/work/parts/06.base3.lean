def updN (L : Nat → Nat) (i v : Nat) : Nat → Nat := fun j => if j = i then v else L j
theorem updN_s {L : Nat → Nat} {i v : Nat} : updN L i v i = v := if_pos rfl
theorem updN_n {L : Nat → Nat} {i v j : Nat} (h : j ≠ i) : updN L i v j = L j := if_neg h
theorem gy_updN (L : Nat → Nat) (i v : Nat) : upd (fun j => nI (L j)) i (nI v) = fun j => nI (updN L i v j) := by
  funext j
  by_cases h : j = i
  · subst h; rw [pk_us, updN_s]
  · rw [pk_un h, updN_n h]
section GZ
variable {p : Program} {l : Launch} {e : Env} {R : Room} {s : State} {m : MethodId} {args : Array Value} {below : List Frame} {meth : Method} {c : Code} {H H0 : Heap} {locs : List Loc} {cells slots : Nat} {Q : State → Prop}
variable {pc : Nat} {ls : Array Slot} {rest st0 : List Value} {A : Nat → Prop} {D : va_G} {cI cB cZ : ClassId} {ws : va_W} {cc : ByteArray}
theorem gy_istN (hexec : p.tables.exec = Jvm.exec) (hb : c.code = cc) (hK : va_K D vwCl (gTy cI cB cZ) s) (hP : va_P D vwCl ws H) (hD : va_D A ws) (hS : va_S A H0 H locs) (q0 : Nat) {a n i v : Nat} {L : Nat → Nat} (ha : ws[q0]? = some (a, .inl (cI, n, .inl (fun j => nI (L j))))) (hn : n < 2 ^ 31) (hi : i < n) (hdg : decode cc pc = .ok (.iastore, 1))
    (kk : ∀ (H1 : Heap) (locs1 : List Loc), va_P D vwCl (ws.set q0 (a, .inl (cI, n, .inl (fun j => nI (updN L i v j))))) H1 → va_D A (ws.set q0 (a, .inl (cI, n, .inl (fun j => nI (updN L i v j))))) → va_S A H0 H1 locs1 → W p l e R s m args below meth c H1 locs1 cells slots Q (F0 m (pc + 1) ls rest)) : W p l e R s m args below meth c H locs cells slots Q (F0 m pc ls (.int (nI v) :: .int (nI i) :: .ref a :: rest)) := by
  refine gy_ist hexec hb hK hP hD hS q0 ha hn hi hdg ?_
  rw [gy_updN]
  exact kk
end GZ
theorem gy_fillp {g : Nat → Int32} {i : Nat} {x : Int32} (h : ∀ j, j < i → g j = x) : ∀ j, j < i + 1 → upd g i x j = x := by
  intro j hj
  by_cases e : j = i
  · subst e; exact pk_us
  · rw [pk_un e]; exact h j (by omega)
