/-! My own: the environment of string constants (where they lie, what they hold), and contracts that want it. -/
abbrev gKS : Type := (Nat → Nat) × (Nat → Nat)
def gTxt : List String := ["load  store set   add   fence swap  inc   cas   if    cell  core  end   skip  a     b     c     ", "RC", "CV", "RV", "RCV", "RCVW", "RS", ""]
def gByt : List (List Int32) := [[108, 111, 97, 100, 32, 32, 115, 116, 111, 114, 101, 32, 115, 101, 116, 32, 32, 32, 97, 100, 100, 32, 32, 32, 102, 101, 110, 99, 101, 32, 115, 119, 97, 112, 32, 32, 105, 110, 99, 32, 32, 32, 99, 97, 115, 32, 32, 32, 105, 102, 32, 32, 32, 32, 99, 101, 108, 108, 32, 32, 99, 111, 114, 101, 32, 32, 101, 110, 100, 32, 32, 32, 115, 107, 105, 112, 32, 32, 97, 32, 32, 32, 32, 32, 98, 32, 32, 32, 32, 32, 99, 32, 32, 32, 32, 32], [82, 67], [67, 86], [82, 86], [82, 67, 86], [82, 67, 86, 87], [82, 83], []]
def gLen : List Nat := [96, 2, 2, 2, 3, 4, 2, 0]
def gLit : List (Nat × Nat) := [(88, 0), (151, 1), (153, 2), (155, 3), (157, 4), (159, 5), (161, 6), (163, 7)]
def gSE (K : gKS) (A : Nat → Prop) (U : State) (H : Heap) : Prop := vk_S 8 gLen gByt K.1 K.2 A U H ∧ va_Z "java/lang/String" "COMPACT_STRINGS" "Z" (.int 1) A U H ∧ va_Zq "jdk/internal/util/Preconditions" "SIOOBE_FORMATTER" "Ljava/util/function/BiFunction;" A U H ∧ ∀ q ∈ gLit, vk_R "LitmusHall$Reader" q.1 (gTxt.getD q.2 "") (K.1 q.2) U
theorem gSE.pass {K : gKS} {A B : Nat → Prop} {s U : State} {H : Heap} {locs : List Loc} (h : gSE K A s s.heap) (hS : va_S A s.heap H locs) (hB : ∀ q, B q → A q) (hU : U.heap = H) (hW : s.WarmedH U.vm) : gSE K B U U.heap := by
  rw [hU]
  exact ⟨((h.1.kept hS.2.1).narrow hB).moved hW.alike, ((h.2.1.kept hS.2.1).narrow hB).moved hW.alike, ((h.2.2.1.kept hS.2.1).narrow hB).moved hW.alike, fun q hq => (h.2.2.2 q hq).warm hW⟩
def gEE (D : va_G) (cI cB cZ : ClassId) (w : va_W) (sz : Nat) (L : List gNT) (K : gKS) (U : State) : Prop := gE D cI cB cZ w sz L U ∧ gSE K (va_A w sz) U U.heap
theorem gEE.blind {D : va_G} {cI cB cZ : ClassId} {w : va_W} {sz : Nat} {L : List gNT} {K : gKS} {av : List Value} : FrameBlind (va_Pc av (gEE D cI cB cZ w sz L K)) := fun a U g mk q => by
  obtain ⟨q0, q1, h1, h2, h3, h4⟩ := q
  exact ⟨q0, (gE.blind (av := av) a U g mk ⟨q0, q1⟩).2, h1.moved (Vm.Alike.refl U.vm), h2.moved (Vm.Alike.refl U.vm), h3.moved (Vm.Alike.refl U.vm), fun x hx => vk_R.same rfl (h4 x hx)⟩
def gMiE (l : Launch) (y : MethodName) (ws : List Cond) (rm : Room) (D : va_G) (cI cB cZ : ClassId) (K : gKS) (L : List gNT) (av : List Value) (w : va_W) (post : Int32 → va_W → Prop) : Prop :=
  ∀ sz : Nat, Met l y ws rm (va_Pc av (gEE D cI cB cZ w sz L K)) (va_Qi post (gX D cI cB cZ (va_A w sz)) (va_A w sz)) rm.cells rm.slots (va_A w sz)
def gMvE (l : Launch) (y : MethodName) (ws : List Cond) (rm : Room) (D : va_G) (cI cB cZ : ClassId) (K : gKS) (L : List gNT) (av : List Value) (w : va_W) (post : va_W → Prop) : Prop :=
  ∀ sz : Nat, Met l y ws rm (va_Pc av (gEE D cI cB cZ w sz L K)) (va_Qv post (gX D cI cB cZ (va_A w sz)) (va_A w sz)) rm.cells rm.slots (va_A w sz)
def gMrE (l : Launch) (y : MethodName) (ws : List Cond) (rm : Room) (D : va_G) (cI cB cZ : ClassId) (K : gKS) (L : List gNT) (av : List Value) (w : va_W) (post : Nat → va_W → Prop) : Prop :=
  ∀ sz : Nat, Met l y ws rm (va_Pc av (gEE D cI cB cZ w sz L K)) (va_Qr (fun (u : Nat × va_W) => post u.1 u.2) (fun u a t => a = u.1 ∧ gX D cI cB cZ (va_A w sz) u.2 t) (va_A w sz)) rm.cells rm.slots (va_A w sz)
theorem gMiE.of {l : Launch} {y : MethodName} {ws ws' : List Cond} {rm : Room} {D : va_G} {cI cB cZ : ClassId} {K : gKS} {L : List gNT} {av : List Value} {w : va_W} {post : Int32 → va_W → Prop} {cc : ByteArray} {maxL : Nat} {ret : Option FieldType} (hy : plainName y.cls = true) (hw : ws = Cond.code y cc maxL ret :: ws') (hlen : (lg_sl av).length ≤ maxL)
    (body : ∀ (p : Program) (e : Env) (s : State) (m : MethodId) (below : List Frame) (meth : Method) (c : Code) (A : Nat → Prop) (ls : Array Slot), p.tables.exec = Jvm.exec → c.code = cc → meth.sig.returnType = ret → meth.locks = false → c.maxLocals = maxL → (∀ w ∈ ws, w.before av.toArray s = true) → s.vm.findClass y.cls = some m.cls → meth.name = y.name → (∀ q : Nat, s.heap.size ≤ q → A q) → va_P D vwCl w s.heap → va_K D vwCl (gTy cI cB cZ) s → va_D A w → va_S A s.heap s.heap [] → gN L s → gSE K A s s.heap → lv_has ls maxL (lv_args 0 av) →
      W p l e rm s m av.toArray below meth c s.heap [] 0 0 (MQ below (va_Qi post (gX D cI cB cZ A) A) av.toArray s rm.cells rm.slots A) (F0 m 0 ls [])) : gMiE l y ws rm D cI cB cZ K L av w post := by
  intro sz
  refine Met.ofW (cc := cc) (maxL := maxL) (ret := ret) hy hw ?_
  intro p e s m args below meth c s₁ B hml hv
  obtain ⟨rfl, ⟨hsz, hP, hK, hD0, hN⟩, hE⟩ := hv
  subst hsz
  have hl := lv_entry av (n := maxL) hlen
  rw [lg_entry_eq]
  exact body p e s m below meth c (va_A w s.heap.size) _ B.exec B.bytes B.returns B.notSynchronized hml (atoms_spec (ws := ws) B.pre) (findClass_of_methodNamed B.named) (name_of_methodNamed B.named B.method).1 (fun q h => Or.inr h) hP hK hD0.self va_S.rf hN hE hl
theorem gMvE.of {l : Launch} {y : MethodName} {ws ws' : List Cond} {rm : Room} {D : va_G} {cI cB cZ : ClassId} {K : gKS} {L : List gNT} {av : List Value} {w : va_W} {post : va_W → Prop} {cc : ByteArray} {maxL : Nat} {ret : Option FieldType} (hy : plainName y.cls = true) (hw : ws = Cond.code y cc maxL ret :: ws') (hlen : (lg_sl av).length ≤ maxL)
    (body : ∀ (p : Program) (e : Env) (s : State) (m : MethodId) (below : List Frame) (meth : Method) (c : Code) (A : Nat → Prop) (ls : Array Slot), p.tables.exec = Jvm.exec → c.code = cc → meth.sig.returnType = ret → meth.locks = false → c.maxLocals = maxL → (∀ w ∈ ws, w.before av.toArray s = true) → s.vm.findClass y.cls = some m.cls → meth.name = y.name → (∀ q : Nat, s.heap.size ≤ q → A q) → va_P D vwCl w s.heap → va_K D vwCl (gTy cI cB cZ) s → va_D A w → va_S A s.heap s.heap [] → gN L s → gSE K A s s.heap → lv_has ls maxL (lv_args 0 av) →
      W p l e rm s m av.toArray below meth c s.heap [] 0 0 (MQ below (va_Qv post (gX D cI cB cZ A) A) av.toArray s rm.cells rm.slots A) (F0 m 0 ls [])) : gMvE l y ws rm D cI cB cZ K L av w post := by
  intro sz
  refine Met.ofW (cc := cc) (maxL := maxL) (ret := ret) hy hw ?_
  intro p e s m args below meth c s₁ B hml hv
  obtain ⟨rfl, ⟨hsz, hP, hK, hD0, hN⟩, hE⟩ := hv
  subst hsz
  have hl := lv_entry av (n := maxL) hlen
  rw [lg_entry_eq]
  exact body p e s m below meth c (va_A w s.heap.size) _ B.exec B.bytes B.returns B.notSynchronized hml (atoms_spec (ws := ws) B.pre) (findClass_of_methodNamed B.named) (name_of_methodNamed B.named B.method).1 (fun q h => Or.inr h) hP hK hD0.self va_S.rf hN hE hl
theorem gMrE.of {l : Launch} {y : MethodName} {ws ws' : List Cond} {rm : Room} {D : va_G} {cI cB cZ : ClassId} {K : gKS} {L : List gNT} {av : List Value} {w : va_W} {post : Nat → va_W → Prop} {cc : ByteArray} {maxL : Nat} {ret : Option FieldType} (hy : plainName y.cls = true) (hw : ws = Cond.code y cc maxL ret :: ws') (hlen : (lg_sl av).length ≤ maxL)
    (body : ∀ (p : Program) (e : Env) (s : State) (m : MethodId) (below : List Frame) (meth : Method) (c : Code) (A : Nat → Prop) (ls : Array Slot), p.tables.exec = Jvm.exec → c.code = cc → meth.sig.returnType = ret → meth.locks = false → c.maxLocals = maxL → (∀ w ∈ ws, w.before av.toArray s = true) → s.vm.findClass y.cls = some m.cls → meth.name = y.name → (∀ q : Nat, s.heap.size ≤ q → A q) → va_P D vwCl w s.heap → va_K D vwCl (gTy cI cB cZ) s → va_D A w → va_S A s.heap s.heap [] → gN L s → gSE K A s s.heap → lv_has ls maxL (lv_args 0 av) →
      W p l e rm s m av.toArray below meth c s.heap [] 0 0 (MQ below (va_Qr (fun (u : Nat × va_W) => post u.1 u.2) (fun u a t => a = u.1 ∧ gX D cI cB cZ A u.2 t) A) av.toArray s rm.cells rm.slots A) (F0 m 0 ls [])) : gMrE l y ws rm D cI cB cZ K L av w post := by
  intro sz
  refine Met.ofW (cc := cc) (maxL := maxL) (ret := ret) hy hw ?_
  intro p e s m args below meth c s₁ B hml hv
  obtain ⟨rfl, ⟨hsz, hP, hK, hD0, hN⟩, hE⟩ := hv
  subst hsz
  have hl := lv_entry av (n := maxL) hlen
  rw [lg_entry_eq]
  exact body p e s m below meth c (va_A w s.heap.size) _ B.exec B.bytes B.returns B.notSynchronized hml (atoms_spec (ws := ws) B.pre) (findClass_of_methodNamed B.named) (name_of_methodNamed B.named B.method).1 (fun q h => Or.inr h) hP hK hD0.self va_S.rf hN hE hl
section GE
variable {p : Program} {l : Launch} {e : Env} {R : Room} {s : State} {m : MethodId} {args : Array Value} {below : List Frame} {meth : Method} {c : Code} {H H0 : Heap} {locs : List Loc} {cells slots : Nat} {Q : State → Prop}
variable {pc : Nat} {ls : Array Slot} {rest st0 : List Value} {A : Nat → Prop} {D : va_G} {cI cB cZ : ClassId} {ws : va_W} {cc : ByteArray}
theorem ge_preS {K : gKS} {wc : va_W} {av : List Value} {L : List gNT} (hE : gSE K A s s.heap) (hS : va_S A s.heap H locs) (hA : ∀ q, s.heap.size ≤ q → A q) (hK : va_K D vwCl (gTy cI cB cZ) s) (hN : gN L s) (hP : va_P D vwCl ws H) (hD : va_D A ws) (isC : List Nat) (hC : isC.map (fun i => ws[i]?) = wc.map some) (hnC : va_nd isC = true) : PreS s H (va_Pc av (gEE D cI cB cZ wc H.size L K)) av :=
  ⟨gEE.blind, fun U hU hW => ⟨rfl, ⟨by rw [hU], by rw [hU]; exact hP.sub isC (gx_fm hC), va_K.moved hW.alike hK, (hD.sub isC hnC hC).weaken (fun _ _ _ _ => trivial), hN.warm hW⟩, hE.pass hS (va_free hD hS hA isC hC) hU hW⟩⟩
theorem ge_preV {K : gKS} {wc : va_W} {b : Nat} {As : List Value} {C : String} {ci q0 : Nat} {T : u_T} {N : Nat} {fs : List Value} {L : List gNT} (hE : gSE K A s s.heap) (hS : va_S A s.heap H locs) (hA : ∀ q, s.heap.size ≤ q → A q) (hK : va_K D vwCl (gTy cI cB cZ) s) (hN : gN L s) (hP : va_P D vwCl ws H) (hD : va_D A ws) (isC : List Nat) (hC : isC.map (fun i => ws[i]?) = wc.map some) (hnC : va_nd isC = true) (hc : vwCl[ci]? = some (C, T, N)) (he : wc[q0]? = some (b, .inr (ci, fs))) : PreV s H C b (va_Pc (.ref b :: As) (gEE D cI cB cZ wc H.size L K)) As :=
  ⟨gEE.blind, va_recv hK (hP.sub isC (gx_fm hC)) hc he, fun U hU hW => ⟨rfl, ⟨by rw [hU], by rw [hU]; exact hP.sub isC (gx_fm hC), va_K.moved hW.alike hK, (hD.sub isC hnC hC).weaken (fun _ _ _ _ => trivial), hN.warm hW⟩, hE.pass hS (va_free hD hS hA isC hC) hU hW⟩⟩
/-- the receiver is a string constant -/
theorem ge_preK {K : gKS} {wc : va_W} {j : Nat} {As : List Value} {L : List gNT} (hj : j < 8) (hE : gSE K A s s.heap) (hS : va_S A s.heap H locs) (hA : ∀ q, s.heap.size ≤ q → A q) (hK : va_K D vwCl (gTy cI cB cZ) s) (hN : gN L s) (hP : va_P D vwCl ws H) (hD : va_D A ws) (isC : List Nat) (hC : isC.map (fun i => ws[i]?) = wc.map some) (hnC : va_nd isC = true) : PreV s H RJ0 (K.1 j) (va_Pc (.ref (K.1 j) :: As) (gEE D cI cB cZ wc H.size L K)) As :=
  ⟨gEE.blind, vk_recv hE.1 hj hS, fun U hU hW => ⟨rfl, ⟨by rw [hU], by rw [hU]; exact hP.sub isC (gx_fm hC), va_K.moved hW.alike hK, (hD.sub isC hnC hC).weaken (fun _ _ _ _ => trivial), hN.warm hW⟩, hE.pass hS (va_free hD hS hA isC hC) hU hW⟩⟩
/-- an answer that is narrow -/
theorem gx_nret {w' : va_W} {post : Int32 → va_W → Prop} {v : Int32} {ty : FieldType} {mc ms : Nat} (hexec : p.tables.exec = Jvm.exec) (hb : c.code = cc) (hr : meth.sig.returnType = some ty) (hlocks : meth.locks = false) (hK : va_K D vwCl (gTy cI cB cZ) s) (hP : va_P D vwCl w' H) (hD : va_D A w') (hS : va_S A s.heap H locs) (hc : cells ≤ mc) (hs : slots ≤ ms) (hdg : decode cc pc = .ok (.ireturn, 1)) (hn : narrow ty (.int v) = .int v) (hp : post v w') :
    W p l e R s m args below meth c H locs cells slots (MQ below (va_Qi post (gX D cI cB cZ A) A) args s mc ms A) (F0 m pc ls [.int v]) :=
  W.widen hc hs (W.zret hexec hb hr hn (fun t ht hW => ⟨⟨v, w', rfl, hp, by rw [ht]; exact hP, va_K.moved hW.alike hK, hD⟩, hS.F ht⟩) hS.2.2 hdg hlocks)
theorem ge_aret {w' : va_W} {post : Nat → va_W → Prop} {v : Nat} {rt : FieldType} {mc ms : Nat} (hexec : p.tables.exec = Jvm.exec) (hb : c.code = cc) (hr : meth.sig.returnType = some rt) (hrt : (∃ n, rt = .object n) ∨ ∃ t, rt = .array t) (hlocks : meth.locks = false) (hK : va_K D vwCl (gTy cI cB cZ) s) (hP : va_P D vwCl w' H) (hD : va_D A w') (hS : va_S A s.heap H locs) (hc : cells ≤ mc) (hs : slots ≤ ms) (hdg : decode cc pc = .ok (.areturn, 1)) (hp : post v w') :
    W p l e R s m args below meth c H locs cells slots (MQ below (va_Qr (fun (u : Nat × va_W) => post u.1 u.2) (fun u a t => a = u.1 ∧ gX D cI cB cZ A u.2 t) A) args s mc ms A) (F0 m pc ls [.ref v]) :=
  W.widen hc hs (W.aret hexec hb hr hrt (Or.inr ⟨v, rfl⟩) (fun t ht hW => ⟨⟨(v, w'), v, rfl, hp, rfl, by rw [ht]; exact hP, va_K.moved hW.alike hK, hD⟩, hS.F ht⟩) hS.2.2 hdg hlocks)
theorem ge_gor {A0 : Nat → Prop} {wc wr : va_W} {post : Nat → va_W → Prop} {a : Array Value} {mc ms : Nat} (hr : va_Run p l e R s m args below meth c H locs cells slots mc ms (F0 m pc ls st0) rest (va_Qr (fun (u : Nat × va_W) => post u.1 u.2) (fun u a t => a = u.1 ∧ gX D cI cB cZ (va_A wc H.size) u.2 t) (va_A wc H.size) a) (va_A wc H.size))
    (hP : va_P D vwCl ws H) (hD : va_D A0 ws) (hS : va_S A0 H0 H locs) (hA : ∀ q, H0.size ≤ q → A0 q) (isC isR : List Nat) (hC : isC.map (fun i => ws[i]?) = wc.map some) (hR : isR.map (fun i => ws[i]?) = wr.map some) (hn : va_nd isR = true) (hdis : ∀ i ∈ isR, i ∉ isC)
    (kk : ∀ (r : Nat) (w' : va_W) (H1 : Heap) (locs1 : List Loc), post r w' → va_P D vwCl (wr ++ w') H1 → va_D A0 (wr ++ w') → va_S A0 H0 H1 locs1 → W p l e R s m args below meth c H1 locs1 (cells + mc) (slots + ms) Q (F0 m (pc + 3) ls (.ref r :: rest))) : W p l e R s m args below meth c H locs cells slots Q (F0 m pc ls st0) := by
  have hFc := va_free (wc := wc) hD hS hA isC hC
  refine va_callr hr hS (fun q _ h => hFc q h) hFc (fun u ra t H1 locs ht hvm hw hB hz1 hk1 hS => ?_)
  obtain ⟨r, w'⟩ := u
  obtain ⟨er, hP1, hK1, hD1⟩ := hB
  have er : ra = r := er
  subst er
  rw [ht] at hP1
  obtain ⟨hP, hD⟩ := va_join hP hD isC isR hC hR hn hdis hk1 hFc hP1 hD1
  exact kk ra w' H1 locs hw hP hD hS
end GE
theorem gSE.byt {K : gKS} {A : Nat → Prop} {U : State} {H : Heap} {j : Nat} (h : gSE K A U H) (hj : j < 8) : va_T .byte (K.2 j) (gLen.getD j 0) (fun i => .int ((gByt.getD j []).getD i 0)) A U H := (h.1.1 j hj).2.2.2
theorem gSE.cod {K : gKS} {A : Nat → Prop} {U : State} {H : Heap} {j : Nat} (h : gSE K A U H) (hj : j < 8) : va_OF "java/lang/String" "coder" "B" (.int 0) (K.1 j) A U H := (h.1.1 j hj).2.1
theorem gSE.val {K : gKS} {A : Nat → Prop} {U : State} {H : Heap} {j : Nat} (h : gSE K A U H) (hj : j < 8) : va_OF "java/lang/String" "value" "[B" (.ref (K.2 j)) (K.1 j) A U H := (h.1.1 j hj).2.2.1
theorem gSE.lit {K : gKS} {A : Nat → Prop} {U : State} {H : Heap} (h : gSE K A U H) (q : Nat × Nat) (hq : q ∈ gLit) : vk_R "LitmusHall$Reader" q.1 (gTxt.getD q.2 "") (K.1 q.2) U := h.2.2.2 q hq
theorem gLen_lt {j : Nat} (hj : j < 8) : gLen.getD j 0 ≤ 96 := by
  rcases (show j = 0 ∨ j = 1 ∨ j = 2 ∨ j = 3 ∨ j = 4 ∨ j = 5 ∨ j = 6 ∨ j = 7 by omega) with e | e | e | e | e | e | e | e <;> subst e <;> decide
theorem ge_nc (x : Int32) : narrow .char (.int ((x &&& 255).toUInt32 % 65536).toInt32) = .int ((x &&& 255).toUInt32 % 65536).toInt32 := by
  rw [sc_c2]
  exact sc_nar x
theorem ge_vi {k n : Nat} (h : k < n) (hn : n < 2 ^ 31) : vp_in (nI k) n := vp_in_nI h hn
