/-! Base 2: what the heap weighs (accounts that depend on the outcome), loops, rows in natural numbers. -/
/-- the slots of all cells -/
def gT (H : Heap) : Nat := H.foldl (fun n c => n + c.slots.size) 0
section GY
variable {p : Program} {l : Launch} {e : Env} {R : Room} {s : State} {m : MethodId} {args : Array Value} {below : List Frame} {meth : Method} {c : Code} {H H0 : Heap} {locs : List Loc} {cells slots : Nat} {Q : State → Prop}
variable {pc : Nat} {ls : Array Slot} {rest st0 : List Value} {A : Nat → Prop} {D : va_G} {cI cB cZ : ClassId} {ws : va_W} {cc : ByteArray}
theorem gy_sum {T : State} (X : Stand p l e R s m args below meth c T locs cells slots) : gT T.heap = gT s.heap + ((T.heap.toList.drop s.heap.size).map (·.slots.size)).sum := by
  have h0 : s.slotsTrue = true := by
    have h := X.room
    simp only [State.hasRoom, Bool.and_eq_true] at h
    exact h.2
  have h1 := X.book
  have h4 : T.slotsUsed = s.slotsUsed + ((T.heap.toList.drop s.heap.size).map (·.slots.size)).sum := X.same.2.2.2.1
  have e0 : s.slotsUsed = gT s.heap := eq_of_beq h0
  have e1 : T.slotsUsed = gT T.heap := eq_of_beq h1
  rw [← e1, ← e0]
  exact h4
/-- what is known of the heap's weight -/
theorem gy_know {g : JFrame} (k : H.size ≤ s.heap.size + cells → gT H ≤ gT s.heap + slots → W p l e R s m args below meth c H locs cells slots Q g) : W p l e R s m args below meth c H locs cells slots Q g := by
  intro T hT X
  have h1 : T.heap.size ≤ s.heap.size + cells := X.same.2.2.1
  have h2 : ((T.heap.toList.drop s.heap.size).map (·.slots.size)).sum ≤ slots := X.same.2.2.2.2.1
  have h3 := gy_sum X
  subst hT
  exact k h1 (by omega) T rfl X
/-- ... and used: the accounts are lowered to it -/
theorem gy_lower {g : JFrame} {k n : Nat} (h1 : H.size ≤ s.heap.size + k) (h2 : gT H ≤ gT s.heap + n) (kk : W p l e R s m args below meth c H locs k n Q g) : W p l e R s m args below meth c H locs cells slots Q g := by
  intro T hT X
  have h3 := gy_sum X
  subst hT
  exact kk T rfl { X with same := ⟨X.same.1, X.same.2.1, h1, X.same.2.2.2.1, by
    show ((T.heap.toList.drop s.heap.size).map (·.slots.size)).sum ≤ n
    omega, X.same.2.2.2.2.2⟩ }
/-- a loop: an invariant over a state of its own, a measure that falls; the accounts may depend on it -/
theorem gy_loop {σ : Type} (I : σ → Heap → List Loc → Array Slot → Prop) (μ : σ → Nat) (k n : σ → Nat)
    (step : ∀ (x : σ) (H : Heap) (locs : List Loc) (ls : Array Slot), I x H locs ls → (∀ (x' : σ) (H' : Heap) (locs' : List Loc) (ls' : Array Slot), I x' H' locs' ls' → μ x' < μ x → W p l e R s m args below meth c H' locs' (k x') (n x') Q (F0 m pc ls' [])) → W p l e R s m args below meth c H locs (k x) (n x) Q (F0 m pc ls []))
    (x : σ) (h : I x H locs ls) : W p l e R s m args below meth c H locs (k x) (n x) Q (F0 m pc ls []) := by
  have all : ∀ (d : Nat) (x : σ) (H : Heap) (locs : List Loc) (ls : Array Slot), μ x < d → I x H locs ls → W p l e R s m args below meth c H locs (k x) (n x) Q (F0 m pc ls []) := by
    intro d
    induction d with
    | zero => intro x H locs ls h; exact absurd h (Nat.not_lt_zero _)
    | succ d ih => intro x H locs ls hd hI; exact step x H locs ls hI (fun x' H' locs' ls' hI' hm => ih x' H' locs' ls' (by omega) hI')
  exact all (μ x + 1) x H locs ls (Nat.lt_succ_self _) h
/-- a loop that makes nothing -/
theorem gy_loop0 {σ : Type} (I : σ → Heap → List Loc → Array Slot → Prop) (μ : σ → Nat)
    (step : ∀ (x : σ) (H : Heap) (locs : List Loc) (ls : Array Slot), I x H locs ls → (∀ (x' : σ) (H' : Heap) (locs' : List Loc) (ls' : Array Slot), I x' H' locs' ls' → μ x' < μ x → W p l e R s m args below meth c H' locs' cells slots Q (F0 m pc ls' [])) → W p l e R s m args below meth c H locs cells slots Q (F0 m pc ls []))
    (x : σ) (h : I x H locs ls) : W p l e R s m args below meth c H locs cells slots Q (F0 m pc ls []) :=
  gy_loop I μ (fun _ => cells) (fun _ => slots) step x h
-- arrays by natural numbers
theorem gy_ild (hexec : p.tables.exec = Jvm.exec) (hb : c.code = cc) (hK : va_K D vwCl (gTy cI cB cZ) s) (hP : va_P D vwCl ws H) (q0 : Nat) {a n i : Nat} {f : Nat → Int32} (ha : ws[q0]? = some (a, .inl (cI, n, .inl f))) (hn : n < 2 ^ 31) (hi : i < n) (hdg : decode cc pc = .ok (.iaload, 1))
    (kk : W p l e R s m args below meth c H locs cells slots Q (F0 m (pc + 1) ls (.int (f i) :: rest))) : W p l e R s m args below meth c H locs cells slots Q (F0 m pc ls (.int (nI i) :: .ref a :: rest)) := by
  refine va_iald hexec hb hK hP q0 0 ha rfl (vp_in_nI hi hn) hdg ?_
  rw [nI_clamp (by omega)]
  exact kk
theorem gy_bld (hexec : p.tables.exec = Jvm.exec) (hb : c.code = cc) (hK : va_K D vwCl (gTy cI cB cZ) s) (hP : va_P D vwCl ws H) (q0 : Nat) {a n i : Nat} {f : Nat → Int32} (ha : ws[q0]? = some (a, .inl (cB, n, .inl f))) (hn : n < 2 ^ 31) (hi : i < n) (hdg : decode cc pc = .ok (.baload, 1))
    (kk : W p l e R s m args below meth c H locs cells slots Q (F0 m (pc + 1) ls (.int (f i) :: rest))) : W p l e R s m args below meth c H locs cells slots Q (F0 m pc ls (.int (nI i) :: .ref a :: rest)) := by
  refine va_bald hexec hb hK hP q0 1 ha rfl (vp_in_nI hi hn) hdg ?_
  rw [nI_clamp (by omega)]
  exact kk
theorem gy_zld (hexec : p.tables.exec = Jvm.exec) (hb : c.code = cc) (hK : va_K D vwCl (gTy cI cB cZ) s) (hP : va_P D vwCl ws H) (q0 : Nat) {a n i : Nat} {f : Nat → Int32} (ha : ws[q0]? = some (a, .inl (cZ, n, .inl f))) (hn : n < 2 ^ 31) (hi : i < n) (hdg : decode cc pc = .ok (.baload, 1))
    (kk : W p l e R s m args below meth c H locs cells slots Q (F0 m (pc + 1) ls (.int (f i) :: rest))) : W p l e R s m args below meth c H locs cells slots Q (F0 m pc ls (.int (nI i) :: .ref a :: rest)) := by
  refine va_zald hexec hb hK hP q0 2 ha rfl (vp_in_nI hi hn) hdg ?_
  rw [nI_clamp (by omega)]
  exact kk
theorem gy_ist (hexec : p.tables.exec = Jvm.exec) (hb : c.code = cc) (hK : va_K D vwCl (gTy cI cB cZ) s) (hP : va_P D vwCl ws H) (hD : va_D A ws) (hS : va_S A H0 H locs) (q0 : Nat) {a n i : Nat} {x : Int32} {f : Nat → Int32} (ha : ws[q0]? = some (a, .inl (cI, n, .inl f))) (hn : n < 2 ^ 31) (hi : i < n) (hdg : decode cc pc = .ok (.iastore, 1))
    (kk : ∀ (H1 : Heap) (locs1 : List Loc), va_P D vwCl (ws.set q0 (a, .inl (cI, n, .inl (upd f i x)))) H1 → va_D A (ws.set q0 (a, .inl (cI, n, .inl (upd f i x)))) → va_S A H0 H1 locs1 → W p l e R s m args below meth c H1 locs1 cells slots Q (F0 m (pc + 1) ls rest)) : W p l e R s m args below meth c H locs cells slots Q (F0 m pc ls (.int x :: .int (nI i) :: .ref a :: rest)) := by
  refine va_iast hexec hb hK hP hD hS q0 0 ha rfl (vp_in_nI hi hn) hdg ?_
  rw [nI_clamp (by omega)]
  exact kk
theorem gy_bst (hexec : p.tables.exec = Jvm.exec) (hb : c.code = cc) (hK : va_K D vwCl (gTy cI cB cZ) s) (hP : va_P D vwCl ws H) (hD : va_D A ws) (hS : va_S A H0 H locs) (q0 : Nat) {a n i : Nat} {x : Int32} {f : Nat → Int32} (ha : ws[q0]? = some (a, .inl (cB, n, .inl f))) (hn : n < 2 ^ 31) (hi : i < n) (hdg : decode cc pc = .ok (.bastore, 1))
    (kk : ∀ (H1 : Heap) (locs1 : List Loc), va_P D vwCl (ws.set q0 (a, .inl (cB, n, .inl (upd f i (vp_nar .byte x))))) H1 → va_D A (ws.set q0 (a, .inl (cB, n, .inl (upd f i (vp_nar .byte x))))) → va_S A H0 H1 locs1 → W p l e R s m args below meth c H1 locs1 cells slots Q (F0 m (pc + 1) ls rest)) : W p l e R s m args below meth c H locs cells slots Q (F0 m pc ls (.int x :: .int (nI i) :: .ref a :: rest)) := by
  refine va_bast hexec hb hK hP hD hS q0 1 ha rfl (vp_in_nI hi hn) hdg ?_
  rw [nI_clamp (by omega)]
  exact kk
theorem gy_zst (hexec : p.tables.exec = Jvm.exec) (hb : c.code = cc) (hK : va_K D vwCl (gTy cI cB cZ) s) (hP : va_P D vwCl ws H) (hD : va_D A ws) (hS : va_S A H0 H locs) (q0 : Nat) {a n i : Nat} {x : Int32} {f : Nat → Int32} (ha : ws[q0]? = some (a, .inl (cZ, n, .inl f))) (hn : n < 2 ^ 31) (hi : i < n) (hdg : decode cc pc = .ok (.bastore, 1))
    (kk : ∀ (H1 : Heap) (locs1 : List Loc), va_P D vwCl (ws.set q0 (a, .inl (cZ, n, .inl (upd f i (vp_nar .boolean x))))) H1 → va_D A (ws.set q0 (a, .inl (cZ, n, .inl (upd f i (vp_nar .boolean x))))) → va_S A H0 H1 locs1 → W p l e R s m args below meth c H1 locs1 cells slots Q (F0 m (pc + 1) ls rest)) : W p l e R s m args below meth c H locs cells slots Q (F0 m pc ls (.int x :: .int (nI i) :: .ref a :: rest)) := by
  refine va_zast hexec hb hK hP hD hS q0 2 ha rfl (vp_in_nI hi hn) hdg ?_
  rw [nI_clamp (by omega)]
  exact kk
-- branches over natural numbers
theorem gy_ge (hexec : p.tables.exec = Jvm.exec) (hb : c.code = cc) {a b : Nat} {off : Int} {tgt : Nat} (ha : a < 2 ^ 31) (hb2 : b < 2 ^ 31) (hdg : decode cc pc = .ok (.if_icmp .ge off, 3)) (ht : (pc : Int) + off = (tgt : Int))
    (kt : b ≤ a → W p l e R s m args below meth c H locs cells slots Q (F0 m tgt ls rest)) (kf : a < b → W p l e R s m args below meth c H locs cells slots Q (F0 m (pc + 3) ls rest)) : W p l e R s m args below meth c H locs cells slots Q (F0 m pc ls (.int (nI b) :: .int (nI a) :: rest)) :=
  lv_icmp_ge hexec hb hdg ht (fun h => kt ((nI_leI hb2 ha).mp h)) (fun h => kf (Nat.lt_of_not_le (fun q => h ((nI_leI hb2 ha).mpr q))))
theorem gy_gt (hexec : p.tables.exec = Jvm.exec) (hb : c.code = cc) {a b : Nat} {off : Int} {tgt : Nat} (ha : a < 2 ^ 31) (hb2 : b < 2 ^ 31) (hdg : decode cc pc = .ok (.if_icmp .gt off, 3)) (ht : (pc : Int) + off = (tgt : Int))
    (kt : b < a → W p l e R s m args below meth c H locs cells slots Q (F0 m tgt ls rest)) (kf : a ≤ b → W p l e R s m args below meth c H locs cells slots Q (F0 m (pc + 3) ls rest)) : W p l e R s m args below meth c H locs cells slots Q (F0 m pc ls (.int (nI b) :: .int (nI a) :: rest)) :=
  lv_icmp_gt hexec hb hdg ht (fun h => kt ((nI_ltI hb2 ha).mp h)) (fun h => kf (Nat.le_of_not_lt (fun q => h ((nI_ltI hb2 ha).mpr q))))
theorem gy_lt (hexec : p.tables.exec = Jvm.exec) (hb : c.code = cc) {a b : Nat} {off : Int} {tgt : Nat} (ha : a < 2 ^ 31) (hb2 : b < 2 ^ 31) (hdg : decode cc pc = .ok (.if_icmp .lt off, 3)) (ht : (pc : Int) + off = (tgt : Int))
    (kt : a < b → W p l e R s m args below meth c H locs cells slots Q (F0 m tgt ls rest)) (kf : b ≤ a → W p l e R s m args below meth c H locs cells slots Q (F0 m (pc + 3) ls rest)) : W p l e R s m args below meth c H locs cells slots Q (F0 m pc ls (.int (nI b) :: .int (nI a) :: rest)) :=
  lv_icmp_lt hexec hb hdg ht (fun h => kt ((nI_ltI ha hb2).mp h)) (fun h => kf (Nat.le_of_not_lt (fun q => h ((nI_ltI ha hb2).mpr q))))
theorem gy_le (hexec : p.tables.exec = Jvm.exec) (hb : c.code = cc) {a b : Nat} {off : Int} {tgt : Nat} (ha : a < 2 ^ 31) (hb2 : b < 2 ^ 31) (hdg : decode cc pc = .ok (.if_icmp .le off, 3)) (ht : (pc : Int) + off = (tgt : Int))
    (kt : a ≤ b → W p l e R s m args below meth c H locs cells slots Q (F0 m tgt ls rest)) (kf : b < a → W p l e R s m args below meth c H locs cells slots Q (F0 m (pc + 3) ls rest)) : W p l e R s m args below meth c H locs cells slots Q (F0 m pc ls (.int (nI b) :: .int (nI a) :: rest)) :=
  lv_icmp_le hexec hb hdg ht (fun h => kt ((nI_leI ha hb2).mp h)) (fun h => kf (Nat.lt_of_not_le (fun q => h ((nI_leI ha hb2).mpr q))))
theorem gy_eq (hexec : p.tables.exec = Jvm.exec) (hb : c.code = cc) {a b : Nat} {off : Int} {tgt : Nat} (ha : a < 2 ^ 31) (hb2 : b < 2 ^ 31) (hdg : decode cc pc = .ok (.if_icmp .eq off, 3)) (ht : (pc : Int) + off = (tgt : Int))
    (kt : a = b → W p l e R s m args below meth c H locs cells slots Q (F0 m tgt ls rest)) (kf : a ≠ b → W p l e R s m args below meth c H locs cells slots Q (F0 m (pc + 3) ls rest)) : W p l e R s m args below meth c H locs cells slots Q (F0 m pc ls (.int (nI b) :: .int (nI a) :: rest)) :=
  lv_icmp_eq hexec hb hdg ht (fun h => kt ((nI_eq ha hb2).mp h)) (fun h => kf (fun q => h ((nI_eq ha hb2).mpr q)))
theorem gy_ne (hexec : p.tables.exec = Jvm.exec) (hb : c.code = cc) {a b : Nat} {off : Int} {tgt : Nat} (ha : a < 2 ^ 31) (hb2 : b < 2 ^ 31) (hdg : decode cc pc = .ok (.if_icmp .ne off, 3)) (ht : (pc : Int) + off = (tgt : Int))
    (kt : a ≠ b → W p l e R s m args below meth c H locs cells slots Q (F0 m tgt ls rest)) (kf : a = b → W p l e R s m args below meth c H locs cells slots Q (F0 m (pc + 3) ls rest)) : W p l e R s m args below meth c H locs cells slots Q (F0 m pc ls (.int (nI b) :: .int (nI a) :: rest)) :=
  lv_icmp_ne hexec hb hdg ht (fun h => kt (fun q => h ((nI_eq ha hb2).mpr q))) (fun h => kf ((nI_eq ha hb2).mp h))
end GY
/-- what is known between a call's cells: contracts whose account depends on the outcome -/
def gE2 (D : va_G) (cI cB cZ : ClassId) (w : va_W) (sz tot : Nat) (L : List gNT) (U : State) : Prop := gE D cI cB cZ w sz L U ∧ gT U.heap = tot
def gX2 (D : va_G) (cI cB cZ : ClassId) (A : Nat → Prop) (sz tot : Nat) (u : va_W × Nat × Nat) (t : State) : Prop := gX D cI cB cZ A u.1 t ∧ t.heap.size ≤ sz + u.2.1 ∧ gT t.heap ≤ tot + u.2.2
def gMi2 (l : Launch) (y : MethodName) (ws : List Cond) (rm : Room) (D : va_G) (cI cB cZ : ClassId) (L : List gNT) (av : List Value) (w : va_W) (post : Int32 → va_W → Nat → Nat → Prop) : Prop :=
  ∀ sz tot : Nat, Met l y ws rm (va_Pc av (gE2 D cI cB cZ w sz tot L)) (va_Qi (fun r (u : va_W × Nat × Nat) => post r u.1 u.2.1 u.2.2) (gX2 D cI cB cZ (va_A w sz) sz tot) (va_A w sz)) rm.cells rm.slots (va_A w sz)
def gMv2 (l : Launch) (y : MethodName) (ws : List Cond) (rm : Room) (D : va_G) (cI cB cZ : ClassId) (L : List gNT) (av : List Value) (w : va_W) (post : va_W → Nat → Nat → Prop) : Prop :=
  ∀ sz tot : Nat, Met l y ws rm (va_Pc av (gE2 D cI cB cZ w sz tot L)) (va_Qv (fun (u : va_W × Nat × Nat) => post u.1 u.2.1 u.2.2) (gX2 D cI cB cZ (va_A w sz) sz tot) (va_A w sz)) rm.cells rm.slots (va_A w sz)
