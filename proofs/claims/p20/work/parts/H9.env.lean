def gTlit : List Nat := [88, 151, 153, 155, 157, 159, 161, 163]
def gTmlit (i : Nat) : Term := .string "LitmusHall$Reader" (gTlit.getD i 88)
def gFlit : List Cond := flatC (Jvm.Cond.and given_1 narrow_1)
set_option maxRecDepth 100000 in
theorem ge_m1 : ∀ i : Nat, i < 8 → Cond.exactly (gTmlit i) "java/lang/String" ∈ gFlit ∧ Cond.eq (.field (gTmlit i) "java/lang/String" "coder" "B") (.int 0) ∈ gFlit ∧ Cond.arrayOf (.field (gTmlit i) "java/lang/String" "value" "[B") .byte ∈ gFlit ∧ Cond.eq (.length (.field (gTmlit i) "java/lang/String" "value" "[B")) (.int (Int32.ofNat (gLen.getD i 0))) ∈ gFlit := by decide +kernel
set_option maxRecDepth 100000 in
theorem ge_m2 : ∀ i : Nat, i < 8 → ∀ j : Nat, j < gLen.getD i 0 → Cond.eq (.elem (.field (gTmlit i) "java/lang/String" "value" "[B") (.int (Int32.ofNat j))) (.int ((gByt.getD i []).getD j 0)) ∈ gFlit := by decide +kernel
set_option maxRecDepth 100000 in
theorem ge_m3 : ∀ i : Nat, i < 8 → ∀ j : Nat, j < 8 → i ≠ j → (Cond.not (Cond.eq (gTmlit i) (gTmlit j)) ∈ gFlit ∨ Cond.not (Cond.eq (gTmlit j) (gTmlit i)) ∈ gFlit) := by decide +kernel
set_option maxRecDepth 100000 in
theorem ge_m4 : Cond.eq (.static "java/lang/String" "COMPACT_STRINGS" "Z") (.int 1) ∈ gFlit ∧ Cond.isRef (.static "jdk/internal/util/Preconditions" "SIOOBE_FORMATTER" "Ljava/util/function/BiFunction;") ∈ gFlit := by decide +kernel
/-- the environment of string constants, at the law's entry -/
theorem law_env {args : Array Value} {s : State} {A : Nat → Prop} (hgv : (Jvm.Cond.and given_1 narrow_1).before args s = true) (hts : ∀ w ∈ lw_tbl, w.before args s = true) (hA : ∀ a : Nat, a < s.heap.size → ¬ A a) : ∃ K : gKS, gSE K A s s.heap := by
  have hs : ∀ c ∈ gFlit, c.before args s = true := flat_of_before _ hgv
  obtain ⟨adK, adV, hE, hev⟩ := vk_Sof (args := args) (s := s) (N := 8) (tm := gTmlit) (len := gLen) (byt := gByt) (A := A) (fun i hi => Nat.lt_of_le_of_lt (gLen_lt hi) (by decide)) (fun i hi => hs _ (ge_m1 i hi).1) (fun i hi => hs _ (ge_m1 i hi).2.1) (fun i hi => hs _ (ge_m1 i hi).2.2.1) (fun i hi => hs _ (ge_m1 i hi).2.2.2) (fun i hi j hj => hs _ (ge_m2 i hi j hj)) (fun i j hi hj hij => (ge_m3 i hi j hj hij).imp (hs _) (hs _)) hA
  refine ⟨(adK, adV), hE, va_Zof (hts _ (List.mem_of_getElem? (i := 409) (by decide +kernel))) (hts _ (List.mem_of_getElem? (i := 100) (by decide +kernel))) (va_eqt (hs _ ge_m4.1)) hA, va_Zqof (hts _ (List.mem_of_getElem? (i := 417) (by decide +kernel))) (hts _ (List.mem_of_getElem? (i := 102) (by decide +kernel))) (hs _ ge_m4.2) hA, ?_⟩
  intro q hq
  have hq : q = (88, 0) ∨ q = (151, 1) ∨ q = (153, 2) ∨ q = (155, 3) ∨ q = (157, 4) ∨ q = (159, 5) ∨ q = (161, 6) ∨ q = (163, 7) := by simpa [gLit] using hq
  rcases hq with rfl | rfl | rfl | rfl | rfl | rfl | rfl | rfl
  · exact vk_R.of (A := args) (hts _ (List.mem_of_getElem? (i := 399) (by decide +kernel))) (hev 0 (by decide))
  · exact vk_R.of (A := args) (hts _ (List.mem_of_getElem? (i := 496) (by decide +kernel))) (hev 1 (by decide))
  · exact vk_R.of (A := args) (hts _ (List.mem_of_getElem? (i := 497) (by decide +kernel))) (hev 2 (by decide))
  · exact vk_R.of (A := args) (hts _ (List.mem_of_getElem? (i := 498) (by decide +kernel))) (hev 3 (by decide))
  · exact vk_R.of (A := args) (hts _ (List.mem_of_getElem? (i := 499) (by decide +kernel))) (hev 4 (by decide))
  · exact vk_R.of (A := args) (hts _ (List.mem_of_getElem? (i := 500) (by decide +kernel))) (hev 5 (by decide))
  · exact vk_R.of (A := args) (hts _ (List.mem_of_getElem? (i := 501) (by decide +kernel))) (hev 6 (by decide))
  · exact vk_R.of (A := args) (hts _ (List.mem_of_getElem? (i := 502) (by decide +kernel))) (hev 7 (by decide))
