/-! contracts whose account depends on the outcome, and such as answer a cell: the rest of their rows -/
def gMr2 (l : Launch) (y : MethodName) (ws : List Cond) (rm : Room) (D : va_G) (cI cB cZ : ClassId) (L : List gNT) (av : List Value) (w : va_W) (post : Nat → va_W → Nat → Nat → Prop) : Prop :=
  ∀ sz tot : Nat, Met l y ws rm (va_Pc av (gE2 D cI cB cZ w sz tot L)) (va_Qr (fun (u : Nat × va_W × Nat × Nat) => post u.1 u.2.1 u.2.2.1 u.2.2.2) (fun u a t => a = u.1 ∧ gX2 D cI cB cZ (va_A w sz) sz tot u.2 t) (va_A w sz)) rm.cells rm.slots (va_A w sz)
theorem gMv2.of {l : Launch} {y : MethodName} {ws ws' : List Cond} {rm : Room} {D : va_G} {cI cB cZ : ClassId} {L : List gNT} {av : List Value} {w : va_W} {post : va_W → Nat → Nat → Prop} {cc : ByteArray} {maxL : Nat} {ret : Option FieldType} (hy : plainName y.cls = true) (hw : ws = Cond.code y cc maxL ret :: ws') (hlen : (lg_sl av).length ≤ maxL)
    (body : ∀ (p : Program) (e : Env) (s : State) (m : MethodId) (below : List Frame) (meth : Method) (c : Code) (A : Nat → Prop) (ls : Array Slot), p.tables.exec = Jvm.exec → c.code = cc → meth.sig.returnType = ret → meth.locks = false → c.maxLocals = maxL → (∀ w ∈ ws, w.before av.toArray s = true) → s.vm.findClass y.cls = some m.cls → meth.name = y.name → (∀ q : Nat, s.heap.size ≤ q → A q) → va_P D vwCl w s.heap → va_K D vwCl (gTy cI cB cZ) s → va_D A w → va_S A s.heap s.heap [] → gN L s → lv_has ls maxL (lv_args 0 av) →
      W p l e rm s m av.toArray below meth c s.heap [] 0 0 (MQ below (va_Qv (fun (u : va_W × Nat × Nat) => post u.1 u.2.1 u.2.2) (gX2 D cI cB cZ A s.heap.size (gT s.heap)) A) av.toArray s rm.cells rm.slots A) (F0 m 0 ls [])) : gMv2 l y ws rm D cI cB cZ L av w post := by
  intro sz tot
  refine Met.ofW (cc := cc) (maxL := maxL) (ret := ret) hy hw ?_
  intro p e s m args below meth c s₁ B hml hv
  obtain ⟨rfl, ⟨hsz, hP, hK, hD0, hN⟩, htot⟩ := hv
  subst hsz
  subst htot
  have hl := lv_entry av (n := maxL) hlen
  rw [lg_entry_eq]
  exact body p e s m below meth c (va_A w s.heap.size) _ B.exec B.bytes B.returns B.notSynchronized hml (atoms_spec (ws := ws) B.pre) (findClass_of_methodNamed B.named) (name_of_methodNamed B.named B.method).1 (fun q h => Or.inr h) hP hK hD0.self va_S.rf hN hl
theorem gMr2.of {l : Launch} {y : MethodName} {ws ws' : List Cond} {rm : Room} {D : va_G} {cI cB cZ : ClassId} {L : List gNT} {av : List Value} {w : va_W} {post : Nat → va_W → Nat → Nat → Prop} {cc : ByteArray} {maxL : Nat} {ret : Option FieldType} (hy : plainName y.cls = true) (hw : ws = Cond.code y cc maxL ret :: ws') (hlen : (lg_sl av).length ≤ maxL)
    (body : ∀ (p : Program) (e : Env) (s : State) (m : MethodId) (below : List Frame) (meth : Method) (c : Code) (A : Nat → Prop) (ls : Array Slot), p.tables.exec = Jvm.exec → c.code = cc → meth.sig.returnType = ret → meth.locks = false → c.maxLocals = maxL → (∀ w ∈ ws, w.before av.toArray s = true) → s.vm.findClass y.cls = some m.cls → meth.name = y.name → (∀ q : Nat, s.heap.size ≤ q → A q) → va_P D vwCl w s.heap → va_K D vwCl (gTy cI cB cZ) s → va_D A w → va_S A s.heap s.heap [] → gN L s → lv_has ls maxL (lv_args 0 av) →
      W p l e rm s m av.toArray below meth c s.heap [] 0 0 (MQ below (va_Qr (fun (u : Nat × va_W × Nat × Nat) => post u.1 u.2.1 u.2.2.1 u.2.2.2) (fun u a t => a = u.1 ∧ gX2 D cI cB cZ A s.heap.size (gT s.heap) u.2 t) A) av.toArray s rm.cells rm.slots A) (F0 m 0 ls [])) : gMr2 l y ws rm D cI cB cZ L av w post := by
  intro sz tot
  refine Met.ofW (cc := cc) (maxL := maxL) (ret := ret) hy hw ?_
  intro p e s m args below meth c s₁ B hml hv
  obtain ⟨rfl, ⟨hsz, hP, hK, hD0, hN⟩, htot⟩ := hv
  subst hsz
  subst htot
  have hl := lv_entry av (n := maxL) hlen
  rw [lg_entry_eq]
  exact body p e s m below meth c (va_A w s.heap.size) _ B.exec B.bytes B.returns B.notSynchronized hml (atoms_spec (ws := ws) B.pre) (findClass_of_methodNamed B.named) (name_of_methodNamed B.named B.method).1 (fun q h => Or.inr h) hP hK hD0.self va_S.rf hN hl
theorem gE2.blind {D : va_G} {cI cB cZ : ClassId} {w : va_W} {sz tot : Nat} {L : List gNT} {av : List Value} : FrameBlind (va_Pc av (gE2 D cI cB cZ w sz tot L)) := fun a U g mk q => by
  obtain ⟨q0, q1, q2⟩ := q
  have h := gE.blind (av := av) (D := D) (cI := cI) (cB := cB) (cZ := cZ) (w := w) (sz := sz) (L := L) a U g mk ⟨q0, q1⟩
  exact ⟨h.1, h.2, q2⟩
section GW2
variable {p : Program} {l : Launch} {e : Env} {R : Room} {s : State} {m : MethodId} {args : Array Value} {below : List Frame} {meth : Method} {c : Code} {H H0 : Heap} {locs : List Loc} {cells slots : Nat} {Q : State → Prop}
variable {pc : Nat} {ls : Array Slot} {rest st0 : List Value} {A : Nat → Prop} {D : va_G} {cI cB cZ : ClassId} {ws : va_W} {cc : ByteArray}
theorem gw_preS {wc : va_W} {av : List Value} {L : List gNT} (hK : va_K D vwCl (gTy cI cB cZ) s) (hN : gN L s) (hP : va_P D vwCl ws H) (hD : va_D A ws) (isC : List Nat) (hC : isC.map (fun i => ws[i]?) = wc.map some) (hnC : va_nd isC = true) : PreS s H (va_Pc av (gE2 D cI cB cZ wc H.size (gT H) L)) av :=
  ⟨gE2.blind, fun U hU hW => ⟨rfl, ⟨by rw [hU], by rw [hU]; exact hP.sub isC (gx_fm hC), va_K.moved hW.alike hK, (hD.sub isC hnC hC).weaken (fun _ _ _ _ => trivial), hN.warm hW⟩, by rw [hU]⟩⟩
theorem gw_preV {wc : va_W} {b : Nat} {As : List Value} {C : String} {ci q0 : Nat} {T : u_T} {N : Nat} {fs : List Value} {L : List gNT} (hK : va_K D vwCl (gTy cI cB cZ) s) (hN : gN L s) (hP : va_P D vwCl ws H) (hD : va_D A ws) (isC : List Nat) (hC : isC.map (fun i => ws[i]?) = wc.map some) (hnC : va_nd isC = true) (hc : vwCl[ci]? = some (C, T, N)) (he : wc[q0]? = some (b, .inr (ci, fs))) : PreV s H C b (va_Pc (.ref b :: As) (gE2 D cI cB cZ wc H.size (gT H) L)) As :=
  ⟨gE2.blind, va_recv hK (hP.sub isC (gx_fm hC)) hc he, fun U hU hW => ⟨rfl, ⟨by rw [hU], by rw [hU]; exact hP.sub isC (gx_fm hC), va_K.moved hW.alike hK, (hD.sub isC hnC hC).weaken (fun _ _ _ _ => trivial), hN.warm hW⟩, by rw [hU]⟩⟩
theorem gw_iret {w' : va_W} {k n : Nat} {post : Int32 → va_W → Nat → Nat → Prop} {v : Int32} {mc ms : Nat} (hexec : p.tables.exec = Jvm.exec) (hb : c.code = cc) (hr : meth.sig.returnType = some .int) (hlocks : meth.locks = false) (hK : va_K D vwCl (gTy cI cB cZ) s) (hP : va_P D vwCl w' H) (hD : va_D A w') (hS : va_S A s.heap H locs) (hc : cells ≤ mc) (hs : slots ≤ ms) (hck : cells ≤ k) (hsn : slots ≤ n) (hdg : decode cc pc = .ok (.ireturn, 1)) (hp : post v w' k n) :
    W p l e R s m args below meth c H locs cells slots (MQ below (va_Qi (fun r (u : va_W × Nat × Nat) => post r u.1 u.2.1 u.2.2) (gX2 D cI cB cZ A s.heap.size (gT s.heap)) A) args s mc ms A) (F0 m pc ls [.int v]) := by
  refine gy_know (fun h1 h2 => ?_)
  exact W.widen hc hs (W.iret hexec hb hr (fun t ht hW => ⟨⟨v, (w', k, n), rfl, hp, ⟨by rw [ht]; exact hP, va_K.moved hW.alike hK, hD⟩, by rw [ht]; show H.size ≤ s.heap.size + k; omega, by rw [ht]; show gT H ≤ gT s.heap + n; omega⟩, hS.F ht⟩) hS.2.2 hdg hlocks)
theorem gw_vret {w' : va_W} {k n : Nat} {post : va_W → Nat → Nat → Prop} {mc ms : Nat} (hexec : p.tables.exec = Jvm.exec) (hb : c.code = cc) (hr : meth.sig.returnType = none) (hlocks : meth.locks = false) (hK : va_K D vwCl (gTy cI cB cZ) s) (hP : va_P D vwCl w' H) (hD : va_D A w') (hS : va_S A s.heap H locs) (hc : cells ≤ mc) (hs : slots ≤ ms) (hck : cells ≤ k) (hsn : slots ≤ n) (hdg : decode cc pc = .ok (.return_, 1)) (hp : post w' k n) :
    W p l e R s m args below meth c H locs cells slots (MQ below (va_Qv (fun (u : va_W × Nat × Nat) => post u.1 u.2.1 u.2.2) (gX2 D cI cB cZ A s.heap.size (gT s.heap)) A) args s mc ms A) (F0 m pc ls []) := by
  refine gy_know (fun h1 h2 => ?_)
  exact W.widen hc hs (W.vret hexec hb hr (fun t ht hW => ⟨⟨(w', k, n), rfl, hp, ⟨by rw [ht]; exact hP, va_K.moved hW.alike hK, hD⟩, by rw [ht]; show H.size ≤ s.heap.size + k; omega, by rw [ht]; show gT H ≤ gT s.heap + n; omega⟩, hS.F ht⟩) hS.2.2 hdg hlocks)
theorem gw_aret {w' : va_W} {k n : Nat} {post : Nat → va_W → Nat → Nat → Prop} {v : Nat} {rt : FieldType} {mc ms : Nat} (hexec : p.tables.exec = Jvm.exec) (hb : c.code = cc) (hr : meth.sig.returnType = some rt) (hrt : (∃ n, rt = .object n) ∨ ∃ t, rt = .array t) (hlocks : meth.locks = false) (hK : va_K D vwCl (gTy cI cB cZ) s) (hP : va_P D vwCl w' H) (hD : va_D A w') (hS : va_S A s.heap H locs) (hc : cells ≤ mc) (hs : slots ≤ ms) (hck : cells ≤ k) (hsn : slots ≤ n) (hdg : decode cc pc = .ok (.areturn, 1)) (hp : post v w' k n) :
    W p l e R s m args below meth c H locs cells slots (MQ below (va_Qr (fun (u : Nat × va_W × Nat × Nat) => post u.1 u.2.1 u.2.2.1 u.2.2.2) (fun u a t => a = u.1 ∧ gX2 D cI cB cZ A s.heap.size (gT s.heap) u.2 t) A) args s mc ms A) (F0 m pc ls [.ref v]) := by
  refine gy_know (fun h1 h2 => ?_)
  exact W.widen hc hs (W.aret hexec hb hr hrt (Or.inr ⟨v, rfl⟩) (fun t ht hW => ⟨⟨(v, w', k, n), v, rfl, hp, rfl, ⟨by rw [ht]; exact hP, va_K.moved hW.alike hK, hD⟩, by rw [ht]; show H.size ≤ s.heap.size + k; omega, by rw [ht]; show gT H ≤ gT s.heap + n; omega⟩, hS.F ht⟩) hS.2.2 hdg hlocks)
theorem gw_gov {A0 : Nat → Prop} {wc wr : va_W} {post : va_W → Nat → Nat → Prop} {a : Array Value} {mc ms : Nat} (hr : va_Run p l e R s m args below meth c H locs cells slots mc ms (F0 m pc ls st0) rest (va_Qv (fun (u : va_W × Nat × Nat) => post u.1 u.2.1 u.2.2) (gX2 D cI cB cZ (va_A wc H.size) H.size (gT H)) (va_A wc H.size) a) (va_A wc H.size))
    (hP : va_P D vwCl ws H) (hD : va_D A0 ws) (hS : va_S A0 H0 H locs) (hA : ∀ q, H0.size ≤ q → A0 q) (isC isR : List Nat) (hC : isC.map (fun i => ws[i]?) = wc.map some) (hR : isR.map (fun i => ws[i]?) = wr.map some) (hn : va_nd isR = true) (hdis : ∀ i ∈ isR, i ∉ isC)
    (kk : ∀ (w' : va_W) (k n : Nat) (H1 : Heap) (locs1 : List Loc), post w' k n → va_P D vwCl (wr ++ w') H1 → va_D A0 (wr ++ w') → va_S A0 H0 H1 locs1 → W p l e R s m args below meth c H1 locs1 (cells + k) (slots + n) Q (F0 m (pc + 3) ls rest)) : W p l e R s m args below meth c H locs cells slots Q (F0 m pc ls st0) := by
  refine gy_know (fun k1 k2 => ?_)
  have hFc := va_free (wc := wc) hD hS hA isC hC
  refine va_callv hr hS (fun q _ h => hFc q h) hFc (fun u t H1 locs ht hvm hw hB hz1 hk1 hS => ?_)
  obtain ⟨w', k, n⟩ := u
  obtain ⟨⟨hP1, hK1, hD1⟩, e1, e2⟩ := hB
  rw [ht] at hP1 e1 e2
  have e1 : H1.size ≤ H.size + k := e1
  have e2 : gT H1 ≤ gT H + n := e2
  obtain ⟨hP, hD⟩ := va_join hP hD isC isR hC hR hn hdis hk1 hFc hP1 hD1
  exact gy_lower (k := cells + k) (n := slots + n) (by omega) (by omega) (kk w' k n H1 locs hw hP hD hS)
theorem gw_gor {A0 : Nat → Prop} {wc wr : va_W} {post : Nat → va_W → Nat → Nat → Prop} {a : Array Value} {mc ms : Nat} (hr : va_Run p l e R s m args below meth c H locs cells slots mc ms (F0 m pc ls st0) rest (va_Qr (fun (u : Nat × va_W × Nat × Nat) => post u.1 u.2.1 u.2.2.1 u.2.2.2) (fun u a t => a = u.1 ∧ gX2 D cI cB cZ (va_A wc H.size) H.size (gT H) u.2 t) (va_A wc H.size) a) (va_A wc H.size))
    (hP : va_P D vwCl ws H) (hD : va_D A0 ws) (hS : va_S A0 H0 H locs) (hA : ∀ q, H0.size ≤ q → A0 q) (isC isR : List Nat) (hC : isC.map (fun i => ws[i]?) = wc.map some) (hR : isR.map (fun i => ws[i]?) = wr.map some) (hn : va_nd isR = true) (hdis : ∀ i ∈ isR, i ∉ isC)
    (kk : ∀ (r : Nat) (w' : va_W) (k n : Nat) (H1 : Heap) (locs1 : List Loc), post r w' k n → va_P D vwCl (wr ++ w') H1 → va_D A0 (wr ++ w') → va_S A0 H0 H1 locs1 → W p l e R s m args below meth c H1 locs1 (cells + k) (slots + n) Q (F0 m (pc + 3) ls (.ref r :: rest))) : W p l e R s m args below meth c H locs cells slots Q (F0 m pc ls st0) := by
  refine gy_know (fun k1 k2 => ?_)
  have hFc := va_free (wc := wc) hD hS hA isC hC
  refine va_callr hr hS (fun q _ h => hFc q h) hFc (fun u ra t H1 locs ht hvm hw hB hz1 hk1 hS => ?_)
  obtain ⟨r, w', k, n⟩ := u
  obtain ⟨er, ⟨hP1, hK1, hD1⟩, e1, e2⟩ := hB
  have er : ra = r := er
  subst er
  rw [ht] at hP1 e1 e2
  have e1 : H1.size ≤ H.size + k := e1
  have e2 : gT H1 ≤ gT H + n := e2
  obtain ⟨hP, hD⟩ := va_join hP hD isC isR hC hR hn hdis hk1 hFc hP1 hD1
  exact gy_lower (k := cells + k) (n := slots + n) (by omega) (by omega) (kk ra w' k n H1 locs hw hP hD hS)
end GW2
