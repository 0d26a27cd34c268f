theorem dX9_isRace_0 : decode cX9_isRace 0 = .ok (.iconst 0, 1) := by decide +kernel
theorem dX9_isRace_1 : decode cX9_isRace 1 = .ok (.istore_n 2, 1) := by decide +kernel
theorem dX9_isRace_10 : decode cX9_isRace 10 = .ok (.invokevirtual 359, 3) := by decide +kernel
theorem dX9_isRace_100 : decode cX9_isRace 100 = .ok (.goto 10, 3) := by decide +kernel
theorem dX9_isRace_103 : decode cX9_isRace 103 = .ok (.aload_n 0, 1) := by decide +kernel
theorem dX9_isRace_104 : decode cX9_isRace 104 = .ok (.iload_n 1, 1) := by decide +kernel
theorem dX9_isRace_105 : decode cX9_isRace 105 = .ok (.iload 6, 2) := by decide +kernel
theorem dX9_isRace_107 : decode cX9_isRace 107 = .ok (.invokevirtual 359, 3) := by decide +kernel
theorem dX9_isRace_110 : decode cX9_isRace 110 = .ok (.istore 7, 2) := by decide +kernel
theorem dX9_isRace_112 : decode cX9_isRace 112 = .ok (.iload 7, 2) := by decide +kernel
theorem dX9_isRace_114 : decode cX9_isRace 114 = .ok (.ifCond .lt 68, 3) := by decide +kernel
theorem dX9_isRace_117 : decode cX9_isRace 117 = .ok (.aload_n 0, 1) := by decide +kernel
theorem dX9_isRace_118 : decode cX9_isRace 118 = .ok (.getfield 19, 3) := by decide +kernel
theorem dX9_isRace_121 : decode cX9_isRace 121 = .ok (.iload 7, 2) := by decide +kernel
theorem dX9_isRace_123 : decode cX9_isRace 123 = .ok (.iaload, 1) := by decide +kernel
theorem dX9_isRace_124 : decode cX9_isRace 124 = .ok (.iload 4, 2) := by decide +kernel
theorem dX9_isRace_126 : decode cX9_isRace 126 = .ok (.if_icmp .ne 56, 3) := by decide +kernel
theorem dX9_isRace_129 : decode cX9_isRace 129 = .ok (.aload_n 0, 1) := by decide +kernel
theorem dX9_isRace_13 : decode cX9_isRace 13 = .ok (.istore_n 3, 1) := by decide +kernel
theorem dX9_isRace_130 : decode cX9_isRace 130 = .ok (.getfield 16, 3) := by decide +kernel
theorem dX9_isRace_133 : decode cX9_isRace 133 = .ok (.iload 7, 2) := by decide +kernel
theorem dX9_isRace_135 : decode cX9_isRace 135 = .ok (.iaload, 1) := by decide +kernel
theorem dX9_isRace_136 : decode cX9_isRace 136 = .ok (.iconst 1, 1) := by decide +kernel
theorem dX9_isRace_137 : decode cX9_isRace 137 = .ok (.if_icmp .eq 26, 3) := by decide +kernel
theorem dX9_isRace_14 : decode cX9_isRace 14 = .ok (.iload_n 3, 1) := by decide +kernel
theorem dX9_isRace_140 : decode cX9_isRace 140 = .ok (.aload_n 0, 1) := by decide +kernel
theorem dX9_isRace_141 : decode cX9_isRace 141 = .ok (.getfield 16, 3) := by decide +kernel
theorem dX9_isRace_144 : decode cX9_isRace 144 = .ok (.iload 7, 2) := by decide +kernel
theorem dX9_isRace_146 : decode cX9_isRace 146 = .ok (.iaload, 1) := by decide +kernel
theorem dX9_isRace_147 : decode cX9_isRace 147 = .ok (.iconst 5, 1) := by decide +kernel
theorem dX9_isRace_148 : decode cX9_isRace 148 = .ok (.if_icmp .lt 34, 3) := by decide +kernel
theorem dX9_isRace_15 : decode cX9_isRace 15 = .ok (.ifCond .lt 21, 3) := by decide +kernel
theorem dX9_isRace_151 : decode cX9_isRace 151 = .ok (.aload_n 0, 1) := by decide +kernel
theorem dX9_isRace_152 : decode cX9_isRace 152 = .ok (.getfield 16, 3) := by decide +kernel
theorem dX9_isRace_155 : decode cX9_isRace 155 = .ok (.iload 7, 2) := by decide +kernel
theorem dX9_isRace_157 : decode cX9_isRace 157 = .ok (.iaload, 1) := by decide +kernel
theorem dX9_isRace_158 : decode cX9_isRace 158 = .ok (.bipush 7, 2) := by decide +kernel
theorem dX9_isRace_160 : decode cX9_isRace 160 = .ok (.if_icmp .gt 22, 3) := by decide +kernel
theorem dX9_isRace_163 : decode cX9_isRace 163 = .ok (.aload_n 0, 1) := by decide +kernel
theorem dX9_isRace_164 : decode cX9_isRace 164 = .ok (.iload_n 2, 1) := by decide +kernel
theorem dX9_isRace_165 : decode cX9_isRace 165 = .ok (.putfield 362, 3) := by decide +kernel
theorem dX9_isRace_168 : decode cX9_isRace 168 = .ok (.aload_n 0, 1) := by decide +kernel
theorem dX9_isRace_169 : decode cX9_isRace 169 = .ok (.iload 6, 2) := by decide +kernel
theorem dX9_isRace_171 : decode cX9_isRace 171 = .ok (.putfield 365, 3) := by decide +kernel
theorem dX9_isRace_174 : decode cX9_isRace 174 = .ok (.aload_n 0, 1) := by decide +kernel
theorem dX9_isRace_175 : decode cX9_isRace 175 = .ok (.iload 4, 2) := by decide +kernel
theorem dX9_isRace_177 : decode cX9_isRace 177 = .ok (.putfield 368, 3) := by decide +kernel
theorem dX9_isRace_18 : decode cX9_isRace 18 = .ok (.aload_n 0, 1) := by decide +kernel
theorem dX9_isRace_180 : decode cX9_isRace 180 = .ok (.iconst 1, 1) := by decide +kernel
theorem dX9_isRace_181 : decode cX9_isRace 181 = .ok (.ireturn, 1) := by decide +kernel
theorem dX9_isRace_182 : decode cX9_isRace 182 = .ok (.iinc 6 1, 3) := by decide +kernel
theorem dX9_isRace_185 : decode cX9_isRace 185 = .ok (.goto (-103), 3) := by decide +kernel
theorem dX9_isRace_188 : decode cX9_isRace 188 = .ok (.iinc 2 1, 3) := by decide +kernel
theorem dX9_isRace_19 : decode cX9_isRace 19 = .ok (.getfield 16, 3) := by decide +kernel
theorem dX9_isRace_191 : decode cX9_isRace 191 = .ok (.goto (-189), 3) := by decide +kernel
theorem dX9_isRace_194 : decode cX9_isRace 194 = .ok (.iconst 0, 1) := by decide +kernel
theorem dX9_isRace_195 : decode cX9_isRace 195 = .ok (.ireturn, 1) := by decide +kernel
theorem dX9_isRace_2 : decode cX9_isRace 2 = .ok (.iload_n 2, 1) := by decide +kernel
theorem dX9_isRace_22 : decode cX9_isRace 22 = .ok (.iload_n 3, 1) := by decide +kernel
theorem dX9_isRace_23 : decode cX9_isRace 23 = .ok (.iaload, 1) := by decide +kernel
theorem dX9_isRace_24 : decode cX9_isRace 24 = .ok (.ifCond .ne 12, 3) := by decide +kernel
theorem dX9_isRace_27 : decode cX9_isRace 27 = .ok (.aload_n 0, 1) := by decide +kernel
theorem dX9_isRace_28 : decode cX9_isRace 28 = .ok (.getfield 19, 3) := by decide +kernel
theorem dX9_isRace_3 : decode cX9_isRace 3 = .ok (.iconst 3, 1) := by decide +kernel
theorem dX9_isRace_31 : decode cX9_isRace 31 = .ok (.iload_n 3, 1) := by decide +kernel
theorem dX9_isRace_32 : decode cX9_isRace 32 = .ok (.iaload, 1) := by decide +kernel
theorem dX9_isRace_33 : decode cX9_isRace 33 = .ok (.goto 4, 3) := by decide +kernel
theorem dX9_isRace_36 : decode cX9_isRace 36 = .ok (.iconst (-1), 1) := by decide +kernel
theorem dX9_isRace_37 : decode cX9_isRace 37 = .ok (.istore 4, 2) := by decide +kernel
theorem dX9_isRace_39 : decode cX9_isRace 39 = .ok (.iload 4, 2) := by decide +kernel
theorem dX9_isRace_4 : decode cX9_isRace 4 = .ok (.if_icmp .ge 190, 3) := by decide +kernel
theorem dX9_isRace_41 : decode cX9_isRace 41 = .ok (.ifCond .lt 35, 3) := by decide +kernel
theorem dX9_isRace_44 : decode cX9_isRace 44 = .ok (.aload_n 0, 1) := by decide +kernel
theorem dX9_isRace_45 : decode cX9_isRace 45 = .ok (.getfield 44, 3) := by decide +kernel
theorem dX9_isRace_48 : decode cX9_isRace 48 = .ok (.sipush 6000, 3) := by decide +kernel
theorem dX9_isRace_51 : decode cX9_isRace 51 = .ok (.iload_n 1, 1) := by decide +kernel
theorem dX9_isRace_52 : decode cX9_isRace 52 = .ok (.iadd, 1) := by decide +kernel
theorem dX9_isRace_53 : decode cX9_isRace 53 = .ok (.bipush 58, 2) := by decide +kernel
theorem dX9_isRace_55 : decode cX9_isRace 55 = .ok (.imul, 1) := by decide +kernel
theorem dX9_isRace_56 : decode cX9_isRace 56 = .ok (.bipush 55, 2) := by decide +kernel
theorem dX9_isRace_58 : decode cX9_isRace 58 = .ok (.iadd, 1) := by decide +kernel
theorem dX9_isRace_59 : decode cX9_isRace 59 = .ok (.iload_n 2, 1) := by decide +kernel
theorem dX9_isRace_60 : decode cX9_isRace 60 = .ok (.iadd, 1) := by decide +kernel
theorem dX9_isRace_61 : decode cX9_isRace 61 = .ok (.iaload, 1) := by decide +kernel
theorem dX9_isRace_62 : decode cX9_isRace 62 = .ok (.iconst 1, 1) := by decide +kernel
theorem dX9_isRace_63 : decode cX9_isRace 63 = .ok (.iload 4, 2) := by decide +kernel
theorem dX9_isRace_65 : decode cX9_isRace 65 = .ok (.ishl, 1) := by decide +kernel
theorem dX9_isRace_66 : decode cX9_isRace 66 = .ok (.iconst (-1), 1) := by decide +kernel
theorem dX9_isRace_67 : decode cX9_isRace 67 = .ok (.ixor, 1) := by decide +kernel
theorem dX9_isRace_68 : decode cX9_isRace 68 = .ok (.iand, 1) := by decide +kernel
theorem dX9_isRace_69 : decode cX9_isRace 69 = .ok (.ifCond .eq 7, 3) := by decide +kernel
theorem dX9_isRace_7 : decode cX9_isRace 7 = .ok (.aload_n 0, 1) := by decide +kernel
theorem dX9_isRace_72 : decode cX9_isRace 72 = .ok (.iconst 1, 1) := by decide +kernel
theorem dX9_isRace_73 : decode cX9_isRace 73 = .ok (.goto 4, 3) := by decide +kernel
theorem dX9_isRace_76 : decode cX9_isRace 76 = .ok (.iconst 0, 1) := by decide +kernel
theorem dX9_isRace_77 : decode cX9_isRace 77 = .ok (.istore 5, 2) := by decide +kernel
theorem dX9_isRace_79 : decode cX9_isRace 79 = .ok (.iconst 0, 1) := by decide +kernel
theorem dX9_isRace_8 : decode cX9_isRace 8 = .ok (.iload_n 1, 1) := by decide +kernel
theorem dX9_isRace_80 : decode cX9_isRace 80 = .ok (.istore 6, 2) := by decide +kernel
theorem dX9_isRace_82 : decode cX9_isRace 82 = .ok (.iload 6, 2) := by decide +kernel
theorem dX9_isRace_84 : decode cX9_isRace 84 = .ok (.iconst 3, 1) := by decide +kernel
theorem dX9_isRace_85 : decode cX9_isRace 85 = .ok (.if_icmp .ge 103, 3) := by decide +kernel
theorem dX9_isRace_88 : decode cX9_isRace 88 = .ok (.iload 5, 2) := by decide +kernel
theorem dX9_isRace_9 : decode cX9_isRace 9 = .ok (.iload_n 2, 1) := by decide +kernel
theorem dX9_isRace_90 : decode cX9_isRace 90 = .ok (.ifCond .eq 98, 3) := by decide +kernel
theorem dX9_isRace_93 : decode cX9_isRace 93 = .ok (.iload 6, 2) := by decide +kernel
theorem dX9_isRace_95 : decode cX9_isRace 95 = .ok (.iload_n 2, 1) := by decide +kernel
theorem dX9_isRace_96 : decode cX9_isRace 96 = .ok (.if_icmp .ne 7, 3) := by decide +kernel
theorem dX9_isRace_99 : decode cX9_isRace 99 = .ok (.iconst (-1), 1) := by decide +kernel
theorem gRw9 {sf : Nat → Int32} {n : Nat} {nx rz : Nat → Nat} (hG : gW9 (fun j => sf ((((3000 * 2) + n) * 58) + j)) nx rz) : ∀ k, k < 3 → sf (((6000 + n) * 58) + k) = nI (nx k) ∧ nx k ≤ 1200 := by
  intro k hk
  obtain ⟨h1, _, h3, _⟩ := hG k hk
  have h1 : sf ((((3000 * 2) + n) * 58) + k) = nI (nx k) := h1
  exact ⟨by rw [show ((6000 + n) * 58) + k = (((3000 * 2) + n) * 58) + k by omega]; exact h1, h3⟩
theorem gNn {z : Int32} (e : z = (-1)) (h : ¬ z < 0) : False := h (by rw [e]; decide)
def wsP_c_isRace9 : List Cond := .code yX9_isRace cX9_isRace 8 (some .boolean) :: (([.methodLink RX9 359 yX9_nextOf, .instanceMethod yX9_nextOf, .selects RX9 yX9_nextOf yX9_nextOf, .initialized RX9, .fieldLink RX9 16 "LitmusHallModel" "kind" "[I", .fieldLink RX9 19 "LitmusHallModel" "cellOf" "[I", .fieldLink RX9 44 "LitmusHallModel" "state" "[I", .fieldLink RX9 362 "LitmusHallModel" "raceR" "I", .fieldLink RX9 365 "LitmusHallModel" "raceW" "I", .fieldLink RX9 368 "LitmusHallModel" "raceX" "I"] ++ wsX90) ++ (wsP_c_nextOf9 ++ []))
theorem gW_c_isRace9 : wsP_c_isRace9.all goodWord = true := by unfold wsP_c_isRace9; exact gw_mk (by decide +kernel) (gw_app gW_c_nextOf9 rfl)
set_option maxRecDepth 20000 in
theorem gP_c_isRace9__c_nextOf9 : GoodIn wsP_c_isRace9 (wsV RX9 359 RX9 yX9_nextOf wsP_c_nextOf9) := gw_in (pre := [.methodLink RX9 359 yX9_nextOf, .instanceMethod yX9_nextOf, .selects RX9 yX9_nextOf yX9_nextOf, .initialized RX9]) (by decide +kernel) (fun _ h => List.mem_cons_of_mem _ (List.mem_append_right _ (List.mem_append_left _ h))) gW_c_nextOf9
set_option maxHeartbeats 4000000 in
set_option maxRecDepth 100000 in
theorem c_isRace9 (l : Launch) (D : va_G) (cI cB cZ : ClassId) (h0 : Nat) (a0 : Nat) (a1 : Nat) (a2 : Nat) (a3 : Nat) (a12 : Nat) (v4 : Value) (v5 : Value) (v6 : Value) (v7 : Value) (v8 : Value) (v9 : Value) (v10 : Value) (v11 : Value) (v13 : Value) (v14 : Value) (v15 : Value) (v16 : Value) (v17 : Value) (v18 : Value) (v19 : Value) (v20 : Value) (v21 : Value) (v22 : Value) (v23 : Value) (v24 : Value) (v25 : Value) (v26 : Value) (v27 : Value) (v28 : Value) (v29 : Value) (v30 : Value) (v31 : Value) (v32 : Value) (v33 : Value) (v34 : Value) (v35 : Value) (v36 : Value) (v37 : Value) (v38 : Value) (v39 : Value) (v40 : Value) (v41 : Value) (v45 : Value) (v46 : Value) (v47 : Value) (v48 : Value) (v49 : Value) (v50 : Value) (v51 : Value) (rR : Int32) (rW : Int32) (rX : Int32) (C : Nat → Nat) (Mn : Nat → Nat) (kd : Nat → Int32) (cl : Nat → Int32) (sf : Nat → Int32) (n : Nat) (nx : Nat → Nat) (hC : ∀ j, j < 3 → C j ≤ 3) (hMn : ∀ j, j < 3 → Mn j ≤ 6) (hn : n < 3000) (hrow : ∀ k, k < 3 → sf (((6000 + n) * 58) + k) = nI (nx k) ∧ nx k ≤ 1200) : gMi l yX9_isRace wsP_c_isRace9 ({ frames := 1, cells := 0, slots := 0, locals := 23 }) D cI cB cZ [] [.ref h0, .int (nI n)] [(h0, .inr (9, [.ref a0, .ref a1, .ref a2, .ref a3, v4, v5, v6, v7, v8, v9, v10, v11, .ref a12, v13, v14, v15, v16, v17, v18, v19, v20, v21, v22, v23, v24, v25, v26, v27, v28, v29, v30, v31, v32, v33, v34, v35, v36, v37, v38, v39, v40, v41, .int rR, .int rW, .int rX, v45, v46, v47, v48, v49, v50, v51])), (a0, .inl (cI, 3, .inl (fun j => nI (C j)))), (a1, .inl (cI, 9, .inl (fun j => nI (Mn j)))), (a2, .inl (cI, 108, .inl kd)), (a3, .inl (cI, 108, .inl cl)), (a12, .inl (cI, 522000, .inl sf))] (fun r9 w9 => ∃ z : Int32, ∃ rR9 : Int32, ∃ rW9 : Int32, ∃ rX9 : Int32, (gZ z) ∧ r9 = z ∧ w9 = [(h0, .inr (9, [.ref a0, .ref a1, .ref a2, .ref a3, v4, v5, v6, v7, v8, v9, v10, v11, .ref a12, v13, v14, v15, v16, v17, v18, v19, v20, v21, v22, v23, v24, v25, v26, v27, v28, v29, v30, v31, v32, v33, v34, v35, v36, v37, v38, v39, v40, v41, .int rR9, .int rW9, .int rX9, v45, v46, v47, v48, v49, v50, v51])), (a0, .inl (cI, 3, .inl (fun j => nI (C j)))), (a1, .inl (cI, 9, .inl (fun j => nI (Mn j)))), (a2, .inl (cI, 108, .inl kd)), (a3, .inl (cI, 108, .inl cl)), (a12, .inl (cI, 522000, .inl sf))]) := by
  refine gMi.of (cc := cX9_isRace) (maxL := 8) (ret := (some .boolean)) (by decide) rfl (Nat.le_of_ble_eq_true rfl) (fun p e s m below meth c A ls hx hb hr hlk hml hts hown hin hA hP hK hD hS hN hl => ?_)
  have hown : s.vm.findClass RX9 = some m.cls := hown
  have hl : lv_has ls 8 [(0, .ref h0), (1, .int (nI n))] := hl
  refine lv_iconst (v := 0) hx hb dX9_isRace_0 (by decide) ?_
  refine lv_istore_n (lv' := [(2, .int 0), (0, .ref h0), (1, .int (nI n))]) hx hb dX9_isRace_1 rfl hl (by decide) rfl (fun ls hl => ?_)
  refine gy_loop0 (I := fun (x9 : Nat) H locs ls => (x9 ≤ 3) ∧ va_P D vwCl [(h0, .inr (9, [.ref a0, .ref a1, .ref a2, .ref a3, v4, v5, v6, v7, v8, v9, v10, v11, .ref a12, v13, v14, v15, v16, v17, v18, v19, v20, v21, v22, v23, v24, v25, v26, v27, v28, v29, v30, v31, v32, v33, v34, v35, v36, v37, v38, v39, v40, v41, .int rR, .int rW, .int rX, v45, v46, v47, v48, v49, v50, v51])), (a0, .inl (cI, 3, .inl (fun j => nI (C j)))), (a1, .inl (cI, 9, .inl (fun j => nI (Mn j)))), (a2, .inl (cI, 108, .inl kd)), (a3, .inl (cI, 108, .inl cl)), (a12, .inl (cI, 522000, .inl sf))] H ∧ va_D A [(h0, .inr (9, [.ref a0, .ref a1, .ref a2, .ref a3, v4, v5, v6, v7, v8, v9, v10, v11, .ref a12, v13, v14, v15, v16, v17, v18, v19, v20, v21, v22, v23, v24, v25, v26, v27, v28, v29, v30, v31, v32, v33, v34, v35, v36, v37, v38, v39, v40, v41, .int rR, .int rW, .int rX, v45, v46, v47, v48, v49, v50, v51])), (a0, .inl (cI, 3, .inl (fun j => nI (C j)))), (a1, .inl (cI, 9, .inl (fun j => nI (Mn j)))), (a2, .inl (cI, 108, .inl kd)), (a3, .inl (cI, 108, .inl cl)), (a12, .inl (cI, 522000, .inl sf))] ∧ va_S A s.heap H locs ∧ lv_has ls 8 [(2, .int (nI x9)), (0, .ref h0), (1, .int (nI n))]) (μ := fun (x9 : Nat) => 3 - x9) (fun x9 H locs ls hI ih2 => ?_) 0 ⟨(by show 0 ≤ 3; omega), hP, hD, hS, lv_sub hl [0, 1, 2] rfl⟩
  obtain ⟨r, rfl⟩ : ∃ z9, z9 = x9 := ⟨_, rfl⟩
  obtain ⟨hi2_0, hP, hD, hS, hl⟩ := hI
  have hi2_0 : r ≤ 3 := hi2_0
  have hP : va_P D vwCl [(h0, .inr (9, [.ref a0, .ref a1, .ref a2, .ref a3, v4, v5, v6, v7, v8, v9, v10, v11, .ref a12, v13, v14, v15, v16, v17, v18, v19, v20, v21, v22, v23, v24, v25, v26, v27, v28, v29, v30, v31, v32, v33, v34, v35, v36, v37, v38, v39, v40, v41, .int rR, .int rW, .int rX, v45, v46, v47, v48, v49, v50, v51])), (a0, .inl (cI, 3, .inl (fun j => nI (C j)))), (a1, .inl (cI, 9, .inl (fun j => nI (Mn j)))), (a2, .inl (cI, 108, .inl kd)), (a3, .inl (cI, 108, .inl cl)), (a12, .inl (cI, 522000, .inl sf))] H := hP
  have hD : va_D A [(h0, .inr (9, [.ref a0, .ref a1, .ref a2, .ref a3, v4, v5, v6, v7, v8, v9, v10, v11, .ref a12, v13, v14, v15, v16, v17, v18, v19, v20, v21, v22, v23, v24, v25, v26, v27, v28, v29, v30, v31, v32, v33, v34, v35, v36, v37, v38, v39, v40, v41, .int rR, .int rW, .int rX, v45, v46, v47, v48, v49, v50, v51])), (a0, .inl (cI, 3, .inl (fun j => nI (C j)))), (a1, .inl (cI, 9, .inl (fun j => nI (Mn j)))), (a2, .inl (cI, 108, .inl kd)), (a3, .inl (cI, 108, .inl cl)), (a12, .inl (cI, 522000, .inl sf))] := hD
  have hS : va_S A s.heap H locs := hS
  have hl : lv_has ls 8 [(2, .int (nI r)), (0, .ref h0), (1, .int (nI n))] := hl
  refine lv_iload_n hx hb dX9_isRace_2 rfl (lv_at hl 0 rfl) ?_
  refine lv_iconst (v := 3) hx hb dX9_isRace_3 (by decide) ?_
  refine gy_ge (a := r) (b := 3) (tgt := 194) hx hb (by omega) (by omega) dX9_isRace_4 (by decide) (fun c_1 => ?_) (fun c_1 => ?_)
  · refine lv_iconst (v := 0) hx hb dX9_isRace_194 (by decide) ?_
    exact gx_zret (w' := [(h0, .inr (9, [.ref a0, .ref a1, .ref a2, .ref a3, v4, v5, v6, v7, v8, v9, v10, v11, .ref a12, v13, v14, v15, v16, v17, v18, v19, v20, v21, v22, v23, v24, v25, v26, v27, v28, v29, v30, v31, v32, v33, v34, v35, v36, v37, v38, v39, v40, v41, .int rR, .int rW, .int rX, v45, v46, v47, v48, v49, v50, v51])), (a0, .inl (cI, 3, .inl (fun j => nI (C j)))), (a1, .inl (cI, 9, .inl (fun j => nI (Mn j)))), (a2, .inl (cI, 108, .inl kd)), (a3, .inl (cI, 108, .inl cl)), (a12, .inl (cI, 522000, .inl sf))]) hx hb hr hlk hK hP hD hS (Nat.le_of_ble_eq_true rfl) (Nat.le_of_ble_eq_true rfl) dX9_isRace_195 rfl ⟨0, rR, rW, rX, (by first | exact Or.inl rfl | exact Or.inr rfl), rfl, rfl⟩
  · refine lv_aload_n hx hb dX9_isRace_7 rfl (lv_at hl 1 rfl) ?_
    refine lv_iload_n hx hb dX9_isRace_8 rfl (lv_at hl 2 rfl) ?_
    refine lv_iload_n hx hb dX9_isRace_9 rfl (lv_at hl 0 rfl) ?_
    refine gx_goi (wc := [(h0, .inr (9, [.ref a0, .ref a1, .ref a2, .ref a3, v4, v5, v6, v7, v8, v9, v10, v11, .ref a12, v13, v14, v15, v16, v17, v18, v19, v20, v21, v22, v23, v24, v25, v26, v27, v28, v29, v30, v31, v32, v33, v34, v35, v36, v37, v38, v39, v40, v41, .int rR, .int rW, .int rX, v45, v46, v47, v48, v49, v50, v51])), (a0, .inl (cI, 3, .inl (fun j => nI (C j)))), (a1, .inl (cI, 9, .inl (fun j => nI (Mn j)))), (a12, .inl (cI, 522000, .inl sf))]) (wr := [(a2, .inl (cI, 108, .inl kd)), (a3, .inl (cI, 108, .inl cl))]) (va_runV (As := [.int (nI n), .int (nI r)]) (rest := []) ⟨hx, hb, hml, hown, hts⟩ (c_nextOf9 l D cI cB cZ h0 a0 a1 a12 (.ref a2) (.ref a3) (v4) (v5) (v6) (v7) (v8) (v9) (v10) (v11) (v13) (v14) (v15) (v16) (v17) (v18) (v19) (v20) (v21) (v22) (v23) (v24) (v25) (v26) (v27) (v28) (v29) (v30) (v31) (v32) (v33) (v34) (v35) (v36) (v37) (v38) (v39) (v40) (v41) (.int rR) (.int rW) (.int rX) (v45) (v46) (v47) (v48) (v49) (v50) (v51) C Mn sf n r (nx r) hC hMn (by omega) (by omega) (by have := (hrow r (by omega)).2; omega) (hrow r (by omega)).1 _) (cwV 2 hts gP_c_isRace9__c_nextOf9 rfl rfl rfl (by decide +kernel) ⟨Nat.le_of_ble_eq_true rfl, Nat.le_of_ble_eq_true rfl⟩) (gx_preV (ci := 9) (q0 := 0) hK gN.nil hP hD [0, 1, 2, 5] rfl rfl rfl rfl) rfl rfl hl.1 rfl (lv_room (Nat.le_of_ble_eq_true rfl)) dX9_isRace_10 ⟨Nat.le_of_ble_eq_true rfl, Nat.le_of_ble_eq_true rfl⟩) hP hD hS hA [0, 1, 2, 5] [3, 4] rfl rfl rfl (by decide) (fun r1 w1 H locs hp hP hD hS => ?_)
    obtain ⟨zp9, hq_2, h9, rfl⟩ := hp
    have h9 := h9.symm
    subst h9
    have hq_2 : zp9 = (-1) ∨ ∃ q, q < 36 ∧ q = 12 * r + (nx r) ∧ r < C 0 ∧ (nx r) < Mn r ∧ zp9 = nI q := hq_2
    refine lv_istore_n (lv' := [(3, .int zp9), (2, .int (nI r)), (0, .ref h0), (1, .int (nI n))]) hx hb dX9_isRace_13 rfl hl (by decide) rfl (fun ls hl => ?_)
    refine lv_iload_n hx hb dX9_isRace_14 rfl (lv_at hl 0 rfl) ?_
    refine lv_if_lt (tgt := 36) hx hb dX9_isRace_15 (by decide) (fun c_3 => ?_) (fun c_3 => ?_)
    · refine lv_iconst (v := (-1)) hx hb dX9_isRace_36 (by decide) ?_
      refine lv_istore (lv' := [(4, .int (-1)), (3, .int zp9), (2, .int (nI r)), (0, .ref h0), (1, .int (nI n))]) hx hb dX9_isRace_37 hl (by decide) rfl (fun ls hl => ?_)
      refine lv_iload hx hb dX9_isRace_39 (lv_at hl 0 rfl) ?_
      refine lv_if_lt (tgt := 76) hx hb dX9_isRace_41 (by decide) (fun _ => ?_) (fun c9 => absurd (by decide) c9)
      refine lv_iconst (v := 0) hx hb dX9_isRace_76 (by decide) ?_
      refine lv_istore (lv' := [(5, .int 0), (4, .int (-1)), (3, .int zp9), (2, .int (nI r)), (0, .ref h0), (1, .int (nI n))]) hx hb dX9_isRace_77 hl (by decide) rfl (fun ls hl => ?_)
      refine lv_iconst (v := 0) hx hb dX9_isRace_79 (by decide) ?_
      refine lv_istore (lv' := [(6, .int 0), (5, .int 0), (4, .int (-1)), (3, .int zp9), (2, .int (nI r)), (0, .ref h0), (1, .int (nI n))]) hx hb dX9_isRace_80 hl (by decide) rfl (fun ls hl => ?_)
      refine gy_loop0 (I := fun (x9 : Nat) H locs ls => (x9 ≤ 3) ∧ va_P D vwCl [(a2, .inl (cI, 108, .inl kd)), (a3, .inl (cI, 108, .inl cl)), (h0, .inr (9, [.ref a0, .ref a1, .ref a2, .ref a3, v4, v5, v6, v7, v8, v9, v10, v11, .ref a12, v13, v14, v15, v16, v17, v18, v19, v20, v21, v22, v23, v24, v25, v26, v27, v28, v29, v30, v31, v32, v33, v34, v35, v36, v37, v38, v39, v40, v41, .int rR, .int rW, .int rX, v45, v46, v47, v48, v49, v50, v51])), (a0, .inl (cI, 3, .inl (fun j => nI (C j)))), (a1, .inl (cI, 9, .inl (fun j => nI (Mn j)))), (a12, .inl (cI, 522000, .inl sf))] H ∧ va_D A [(a2, .inl (cI, 108, .inl kd)), (a3, .inl (cI, 108, .inl cl)), (h0, .inr (9, [.ref a0, .ref a1, .ref a2, .ref a3, v4, v5, v6, v7, v8, v9, v10, v11, .ref a12, v13, v14, v15, v16, v17, v18, v19, v20, v21, v22, v23, v24, v25, v26, v27, v28, v29, v30, v31, v32, v33, v34, v35, v36, v37, v38, v39, v40, v41, .int rR, .int rW, .int rX, v45, v46, v47, v48, v49, v50, v51])), (a0, .inl (cI, 3, .inl (fun j => nI (C j)))), (a1, .inl (cI, 9, .inl (fun j => nI (Mn j)))), (a12, .inl (cI, 522000, .inl sf))] ∧ va_S A s.heap H locs ∧ lv_has ls 8 [(6, .int (nI x9)), (5, .int 0), (4, .int (-1)), (3, .int zp9), (2, .int (nI r)), (0, .ref h0), (1, .int (nI n))]) (μ := fun (x9 : Nat) => 3 - x9) (fun x9 H locs ls hI ih82 => ?_) 0 ⟨(by show 0 ≤ 3; omega), hP, hD, hS, lv_sub hl [0, 1, 2, 3, 4, 5, 6] rfl⟩
      obtain ⟨w, rfl⟩ : ∃ z9, z9 = x9 := ⟨_, rfl⟩
      obtain ⟨hi82_0, hP, hD, hS, hl⟩ := hI
      have hi82_0 : w ≤ 3 := hi82_0
      have hP : va_P D vwCl [(a2, .inl (cI, 108, .inl kd)), (a3, .inl (cI, 108, .inl cl)), (h0, .inr (9, [.ref a0, .ref a1, .ref a2, .ref a3, v4, v5, v6, v7, v8, v9, v10, v11, .ref a12, v13, v14, v15, v16, v17, v18, v19, v20, v21, v22, v23, v24, v25, v26, v27, v28, v29, v30, v31, v32, v33, v34, v35, v36, v37, v38, v39, v40, v41, .int rR, .int rW, .int rX, v45, v46, v47, v48, v49, v50, v51])), (a0, .inl (cI, 3, .inl (fun j => nI (C j)))), (a1, .inl (cI, 9, .inl (fun j => nI (Mn j)))), (a12, .inl (cI, 522000, .inl sf))] H := hP
      have hD : va_D A [(a2, .inl (cI, 108, .inl kd)), (a3, .inl (cI, 108, .inl cl)), (h0, .inr (9, [.ref a0, .ref a1, .ref a2, .ref a3, v4, v5, v6, v7, v8, v9, v10, v11, .ref a12, v13, v14, v15, v16, v17, v18, v19, v20, v21, v22, v23, v24, v25, v26, v27, v28, v29, v30, v31, v32, v33, v34, v35, v36, v37, v38, v39, v40, v41, .int rR, .int rW, .int rX, v45, v46, v47, v48, v49, v50, v51])), (a0, .inl (cI, 3, .inl (fun j => nI (C j)))), (a1, .inl (cI, 9, .inl (fun j => nI (Mn j)))), (a12, .inl (cI, 522000, .inl sf))] := hD
      have hS : va_S A s.heap H locs := hS
      have hl : lv_has ls 8 [(6, .int (nI w)), (5, .int 0), (4, .int (-1)), (3, .int zp9), (2, .int (nI r)), (0, .ref h0), (1, .int (nI n))] := hl
      refine lv_iload hx hb dX9_isRace_82 (lv_at hl 0 rfl) ?_
      refine lv_iconst (v := 3) hx hb dX9_isRace_84 (by decide) ?_
      refine gy_ge (a := w) (b := 3) (tgt := 188) hx hb (by omega) (by omega) dX9_isRace_85 (by decide) (fun c_4 => ?_) (fun c_4 => ?_)
      · refine lv_iinc (v := nI (r + 1)) (lv' := [(2, .int (nI (r + 1))), (6, .int (nI w)), (5, .int 0), (4, .int (-1)), (3, .int zp9), (0, .ref h0), (1, .int (nI n))]) hx hb dX9_isRace_188 hl (k := 4) rfl (nI_add r 1) (by decide) rfl (fun ls hl => ?_)
        refine lv_goto (tgt := 2) hx hb dX9_isRace_191 (by decide) ?_
        have hP := hP.sub (ws' := [(h0, .inr (9, [.ref a0, .ref a1, .ref a2, .ref a3, v4, v5, v6, v7, v8, v9, v10, v11, .ref a12, v13, v14, v15, v16, v17, v18, v19, v20, v21, v22, v23, v24, v25, v26, v27, v28, v29, v30, v31, v32, v33, v34, v35, v36, v37, v38, v39, v40, v41, .int rR, .int rW, .int rX, v45, v46, v47, v48, v49, v50, v51])), (a0, .inl (cI, 3, .inl (fun j => nI (C j)))), (a1, .inl (cI, 9, .inl (fun j => nI (Mn j)))), (a2, .inl (cI, 108, .inl kd)), (a3, .inl (cI, 108, .inl cl)), (a12, .inl (cI, 522000, .inl sf))]) [2, 3, 4, 0, 1, 5] rfl
        have hD := hD.sub (ws' := [(h0, .inr (9, [.ref a0, .ref a1, .ref a2, .ref a3, v4, v5, v6, v7, v8, v9, v10, v11, .ref a12, v13, v14, v15, v16, v17, v18, v19, v20, v21, v22, v23, v24, v25, v26, v27, v28, v29, v30, v31, v32, v33, v34, v35, v36, v37, v38, v39, v40, v41, .int rR, .int rW, .int rX, v45, v46, v47, v48, v49, v50, v51])), (a0, .inl (cI, 3, .inl (fun j => nI (C j)))), (a1, .inl (cI, 9, .inl (fun j => nI (Mn j)))), (a2, .inl (cI, 108, .inl kd)), (a3, .inl (cI, 108, .inl cl)), (a12, .inl (cI, 522000, .inl sf))]) [2, 3, 4, 0, 1, 5] (by decide) rfl
        exact ih2 (r + 1) H locs ls ⟨(by show (r + 1) ≤ 3; omega), hP, hD, hS, lv_sub hl [0, 5, 6] rfl⟩ (by show 3 - (r + 1) < 3 - r; omega)
      · refine lv_iload hx hb dX9_isRace_88 (lv_at hl 1 rfl) ?_
        refine lv_if_eq (tgt := 188) hx hb dX9_isRace_90 (by decide) (fun _ => ?_) (fun c9 => absurd (by decide) c9)
        refine lv_iinc (v := nI (r + 1)) (lv' := [(2, .int (nI (r + 1))), (6, .int (nI w)), (5, .int 0), (4, .int (-1)), (3, .int zp9), (0, .ref h0), (1, .int (nI n))]) hx hb dX9_isRace_188 hl (k := 4) rfl (nI_add r 1) (by decide) rfl (fun ls hl => ?_)
        refine lv_goto (tgt := 2) hx hb dX9_isRace_191 (by decide) ?_
        have hP := hP.sub (ws' := [(h0, .inr (9, [.ref a0, .ref a1, .ref a2, .ref a3, v4, v5, v6, v7, v8, v9, v10, v11, .ref a12, v13, v14, v15, v16, v17, v18, v19, v20, v21, v22, v23, v24, v25, v26, v27, v28, v29, v30, v31, v32, v33, v34, v35, v36, v37, v38, v39, v40, v41, .int rR, .int rW, .int rX, v45, v46, v47, v48, v49, v50, v51])), (a0, .inl (cI, 3, .inl (fun j => nI (C j)))), (a1, .inl (cI, 9, .inl (fun j => nI (Mn j)))), (a2, .inl (cI, 108, .inl kd)), (a3, .inl (cI, 108, .inl cl)), (a12, .inl (cI, 522000, .inl sf))]) [2, 3, 4, 0, 1, 5] rfl
        have hD := hD.sub (ws' := [(h0, .inr (9, [.ref a0, .ref a1, .ref a2, .ref a3, v4, v5, v6, v7, v8, v9, v10, v11, .ref a12, v13, v14, v15, v16, v17, v18, v19, v20, v21, v22, v23, v24, v25, v26, v27, v28, v29, v30, v31, v32, v33, v34, v35, v36, v37, v38, v39, v40, v41, .int rR, .int rW, .int rX, v45, v46, v47, v48, v49, v50, v51])), (a0, .inl (cI, 3, .inl (fun j => nI (C j)))), (a1, .inl (cI, 9, .inl (fun j => nI (Mn j)))), (a2, .inl (cI, 108, .inl kd)), (a3, .inl (cI, 108, .inl cl)), (a12, .inl (cI, 522000, .inl sf))]) [2, 3, 4, 0, 1, 5] (by decide) rfl
        exact ih2 (r + 1) H locs ls ⟨(by show (r + 1) ≤ 3; omega), hP, hD, hS, lv_sub hl [0, 5, 6] rfl⟩ (by show 3 - (r + 1) < 3 - r; omega)
    · obtain ⟨p9, hp9, _, _, _, rfl⟩ := (hq_2).resolve_left (fun e9 => gNn e9 c_3)
      have hl : lv_has ls 8 [(3, .int (nI p9)), (2, .int (nI r)), (0, .ref h0), (1, .int (nI n))] := hl
      refine lv_aload_n hx hb dX9_isRace_18 rfl (lv_at hl 2 rfl) ?_
      refine va_get (D := D) (ci := 9) (v := .ref a2) (C := RX9) (T := TX9) (N := 52) hx hb hts (fun _ h => List.mem_cons_of_mem _ (List.mem_append_left _ (List.mem_append_right _ h))) hown hK hP 2 rfl rfl 2 (by decide) (hts (.fieldLink RX9 16 "LitmusHallModel" "kind" "[I") (by decide +kernel)) (fun _ h9 => h9) rfl dX9_isRace_19 ?_
      refine lv_iload_n hx hb dX9_isRace_22 rfl (lv_at hl 0 rfl) ?_
      refine gy_ild (i := p9) hx hb hK hP 0 rfl (by omega) (by omega) dX9_isRace_23 ?_
      refine gx_gen (fun z_5 => ?_)
      refine lv_if_ne (tgt := 36) hx hb dX9_isRace_24 (by decide) (fun c_6 => ?_) (fun c_6 => ?_)
      · refine lv_iconst (v := (-1)) hx hb dX9_isRace_36 (by decide) ?_
        refine lv_istore (lv' := [(4, .int (-1)), (3, .int (nI p9)), (2, .int (nI r)), (0, .ref h0), (1, .int (nI n))]) hx hb dX9_isRace_37 hl (by decide) rfl (fun ls hl => ?_)
        refine lv_iload hx hb dX9_isRace_39 (lv_at hl 0 rfl) ?_
        refine lv_if_lt (tgt := 76) hx hb dX9_isRace_41 (by decide) (fun _ => ?_) (fun c9 => absurd (by decide) c9)
        refine lv_iconst (v := 0) hx hb dX9_isRace_76 (by decide) ?_
        refine lv_istore (lv' := [(5, .int 0), (4, .int (-1)), (3, .int (nI p9)), (2, .int (nI r)), (0, .ref h0), (1, .int (nI n))]) hx hb dX9_isRace_77 hl (by decide) rfl (fun ls hl => ?_)
        refine lv_iconst (v := 0) hx hb dX9_isRace_79 (by decide) ?_
        refine lv_istore (lv' := [(6, .int 0), (5, .int 0), (4, .int (-1)), (3, .int (nI p9)), (2, .int (nI r)), (0, .ref h0), (1, .int (nI n))]) hx hb dX9_isRace_80 hl (by decide) rfl (fun ls hl => ?_)
        refine gy_loop0 (I := fun (x9 : Nat) H locs ls => (x9 ≤ 3) ∧ va_P D vwCl [(a2, .inl (cI, 108, .inl kd)), (a3, .inl (cI, 108, .inl cl)), (h0, .inr (9, [.ref a0, .ref a1, .ref a2, .ref a3, v4, v5, v6, v7, v8, v9, v10, v11, .ref a12, v13, v14, v15, v16, v17, v18, v19, v20, v21, v22, v23, v24, v25, v26, v27, v28, v29, v30, v31, v32, v33, v34, v35, v36, v37, v38, v39, v40, v41, .int rR, .int rW, .int rX, v45, v46, v47, v48, v49, v50, v51])), (a0, .inl (cI, 3, .inl (fun j => nI (C j)))), (a1, .inl (cI, 9, .inl (fun j => nI (Mn j)))), (a12, .inl (cI, 522000, .inl sf))] H ∧ va_D A [(a2, .inl (cI, 108, .inl kd)), (a3, .inl (cI, 108, .inl cl)), (h0, .inr (9, [.ref a0, .ref a1, .ref a2, .ref a3, v4, v5, v6, v7, v8, v9, v10, v11, .ref a12, v13, v14, v15, v16, v17, v18, v19, v20, v21, v22, v23, v24, v25, v26, v27, v28, v29, v30, v31, v32, v33, v34, v35, v36, v37, v38, v39, v40, v41, .int rR, .int rW, .int rX, v45, v46, v47, v48, v49, v50, v51])), (a0, .inl (cI, 3, .inl (fun j => nI (C j)))), (a1, .inl (cI, 9, .inl (fun j => nI (Mn j)))), (a12, .inl (cI, 522000, .inl sf))] ∧ va_S A s.heap H locs ∧ lv_has ls 8 [(6, .int (nI x9)), (5, .int 0), (4, .int (-1)), (3, .int (nI p9)), (2, .int (nI r)), (0, .ref h0), (1, .int (nI n))]) (μ := fun (x9 : Nat) => 3 - x9) (fun x9 H locs ls hI ih82 => ?_) 0 ⟨(by show 0 ≤ 3; omega), hP, hD, hS, lv_sub hl [0, 1, 2, 3, 4, 5, 6] rfl⟩
        obtain ⟨w, rfl⟩ : ∃ z9, z9 = x9 := ⟨_, rfl⟩
        obtain ⟨hi82_0, hP, hD, hS, hl⟩ := hI
        have hi82_0 : w ≤ 3 := hi82_0
        have hP : va_P D vwCl [(a2, .inl (cI, 108, .inl kd)), (a3, .inl (cI, 108, .inl cl)), (h0, .inr (9, [.ref a0, .ref a1, .ref a2, .ref a3, v4, v5, v6, v7, v8, v9, v10, v11, .ref a12, v13, v14, v15, v16, v17, v18, v19, v20, v21, v22, v23, v24, v25, v26, v27, v28, v29, v30, v31, v32, v33, v34, v35, v36, v37, v38, v39, v40, v41, .int rR, .int rW, .int rX, v45, v46, v47, v48, v49, v50, v51])), (a0, .inl (cI, 3, .inl (fun j => nI (C j)))), (a1, .inl (cI, 9, .inl (fun j => nI (Mn j)))), (a12, .inl (cI, 522000, .inl sf))] H := hP
        have hD : va_D A [(a2, .inl (cI, 108, .inl kd)), (a3, .inl (cI, 108, .inl cl)), (h0, .inr (9, [.ref a0, .ref a1, .ref a2, .ref a3, v4, v5, v6, v7, v8, v9, v10, v11, .ref a12, v13, v14, v15, v16, v17, v18, v19, v20, v21, v22, v23, v24, v25, v26, v27, v28, v29, v30, v31, v32, v33, v34, v35, v36, v37, v38, v39, v40, v41, .int rR, .int rW, .int rX, v45, v46, v47, v48, v49, v50, v51])), (a0, .inl (cI, 3, .inl (fun j => nI (C j)))), (a1, .inl (cI, 9, .inl (fun j => nI (Mn j)))), (a12, .inl (cI, 522000, .inl sf))] := hD
        have hS : va_S A s.heap H locs := hS
        have hl : lv_has ls 8 [(6, .int (nI w)), (5, .int 0), (4, .int (-1)), (3, .int (nI p9)), (2, .int (nI r)), (0, .ref h0), (1, .int (nI n))] := hl
        refine lv_iload hx hb dX9_isRace_82 (lv_at hl 0 rfl) ?_
        refine lv_iconst (v := 3) hx hb dX9_isRace_84 (by decide) ?_
        refine gy_ge (a := w) (b := 3) (tgt := 188) hx hb (by omega) (by omega) dX9_isRace_85 (by decide) (fun c_7 => ?_) (fun c_7 => ?_)
        · refine lv_iinc (v := nI (r + 1)) (lv' := [(2, .int (nI (r + 1))), (6, .int (nI w)), (5, .int 0), (4, .int (-1)), (3, .int (nI p9)), (0, .ref h0), (1, .int (nI n))]) hx hb dX9_isRace_188 hl (k := 4) rfl (nI_add r 1) (by decide) rfl (fun ls hl => ?_)
          refine lv_goto (tgt := 2) hx hb dX9_isRace_191 (by decide) ?_
          have hP := hP.sub (ws' := [(h0, .inr (9, [.ref a0, .ref a1, .ref a2, .ref a3, v4, v5, v6, v7, v8, v9, v10, v11, .ref a12, v13, v14, v15, v16, v17, v18, v19, v20, v21, v22, v23, v24, v25, v26, v27, v28, v29, v30, v31, v32, v33, v34, v35, v36, v37, v38, v39, v40, v41, .int rR, .int rW, .int rX, v45, v46, v47, v48, v49, v50, v51])), (a0, .inl (cI, 3, .inl (fun j => nI (C j)))), (a1, .inl (cI, 9, .inl (fun j => nI (Mn j)))), (a2, .inl (cI, 108, .inl kd)), (a3, .inl (cI, 108, .inl cl)), (a12, .inl (cI, 522000, .inl sf))]) [2, 3, 4, 0, 1, 5] rfl
          have hD := hD.sub (ws' := [(h0, .inr (9, [.ref a0, .ref a1, .ref a2, .ref a3, v4, v5, v6, v7, v8, v9, v10, v11, .ref a12, v13, v14, v15, v16, v17, v18, v19, v20, v21, v22, v23, v24, v25, v26, v27, v28, v29, v30, v31, v32, v33, v34, v35, v36, v37, v38, v39, v40, v41, .int rR, .int rW, .int rX, v45, v46, v47, v48, v49, v50, v51])), (a0, .inl (cI, 3, .inl (fun j => nI (C j)))), (a1, .inl (cI, 9, .inl (fun j => nI (Mn j)))), (a2, .inl (cI, 108, .inl kd)), (a3, .inl (cI, 108, .inl cl)), (a12, .inl (cI, 522000, .inl sf))]) [2, 3, 4, 0, 1, 5] (by decide) rfl
          exact ih2 (r + 1) H locs ls ⟨(by show (r + 1) ≤ 3; omega), hP, hD, hS, lv_sub hl [0, 5, 6] rfl⟩ (by show 3 - (r + 1) < 3 - r; omega)
        · refine lv_iload hx hb dX9_isRace_88 (lv_at hl 1 rfl) ?_
          refine lv_if_eq (tgt := 188) hx hb dX9_isRace_90 (by decide) (fun _ => ?_) (fun c9 => absurd (by decide) c9)
          refine lv_iinc (v := nI (r + 1)) (lv' := [(2, .int (nI (r + 1))), (6, .int (nI w)), (5, .int 0), (4, .int (-1)), (3, .int (nI p9)), (0, .ref h0), (1, .int (nI n))]) hx hb dX9_isRace_188 hl (k := 4) rfl (nI_add r 1) (by decide) rfl (fun ls hl => ?_)
          refine lv_goto (tgt := 2) hx hb dX9_isRace_191 (by decide) ?_
          have hP := hP.sub (ws' := [(h0, .inr (9, [.ref a0, .ref a1, .ref a2, .ref a3, v4, v5, v6, v7, v8, v9, v10, v11, .ref a12, v13, v14, v15, v16, v17, v18, v19, v20, v21, v22, v23, v24, v25, v26, v27, v28, v29, v30, v31, v32, v33, v34, v35, v36, v37, v38, v39, v40, v41, .int rR, .int rW, .int rX, v45, v46, v47, v48, v49, v50, v51])), (a0, .inl (cI, 3, .inl (fun j => nI (C j)))), (a1, .inl (cI, 9, .inl (fun j => nI (Mn j)))), (a2, .inl (cI, 108, .inl kd)), (a3, .inl (cI, 108, .inl cl)), (a12, .inl (cI, 522000, .inl sf))]) [2, 3, 4, 0, 1, 5] rfl
          have hD := hD.sub (ws' := [(h0, .inr (9, [.ref a0, .ref a1, .ref a2, .ref a3, v4, v5, v6, v7, v8, v9, v10, v11, .ref a12, v13, v14, v15, v16, v17, v18, v19, v20, v21, v22, v23, v24, v25, v26, v27, v28, v29, v30, v31, v32, v33, v34, v35, v36, v37, v38, v39, v40, v41, .int rR, .int rW, .int rX, v45, v46, v47, v48, v49, v50, v51])), (a0, .inl (cI, 3, .inl (fun j => nI (C j)))), (a1, .inl (cI, 9, .inl (fun j => nI (Mn j)))), (a2, .inl (cI, 108, .inl kd)), (a3, .inl (cI, 108, .inl cl)), (a12, .inl (cI, 522000, .inl sf))]) [2, 3, 4, 0, 1, 5] (by decide) rfl
          exact ih2 (r + 1) H locs ls ⟨(by show (r + 1) ≤ 3; omega), hP, hD, hS, lv_sub hl [0, 5, 6] rfl⟩ (by show 3 - (r + 1) < 3 - r; omega)
      · refine lv_aload_n hx hb dX9_isRace_27 rfl (lv_at hl 2 rfl) ?_
        refine va_get (D := D) (ci := 9) (v := .ref a3) (C := RX9) (T := TX9) (N := 52) hx hb hts (fun _ h => List.mem_cons_of_mem _ (List.mem_append_left _ (List.mem_append_right _ h))) hown hK hP 2 rfl rfl 3 (by decide) (hts (.fieldLink RX9 19 "LitmusHallModel" "cellOf" "[I") (by decide +kernel)) (fun _ h9 => h9) rfl dX9_isRace_28 ?_
        refine lv_iload_n hx hb dX9_isRace_31 rfl (lv_at hl 0 rfl) ?_
        refine gy_ild (i := p9) hx hb hK hP 1 rfl (by omega) (by omega) dX9_isRace_32 ?_
        refine gx_gen (fun z_8 => ?_)
        refine lv_goto (tgt := 37) hx hb dX9_isRace_33 (by decide) ?_
        refine lv_istore (lv' := [(4, .int z_8), (3, .int (nI p9)), (2, .int (nI r)), (0, .ref h0), (1, .int (nI n))]) hx hb dX9_isRace_37 hl (by decide) rfl (fun ls hl => ?_)
        refine lv_iload hx hb dX9_isRace_39 (lv_at hl 0 rfl) ?_
        refine lv_if_lt (tgt := 76) hx hb dX9_isRace_41 (by decide) (fun c_9 => ?_) (fun c_9 => ?_)
        · refine lv_iconst (v := 0) hx hb dX9_isRace_76 (by decide) ?_
          refine lv_istore (lv' := [(5, .int 0), (4, .int z_8), (3, .int (nI p9)), (2, .int (nI r)), (0, .ref h0), (1, .int (nI n))]) hx hb dX9_isRace_77 hl (by decide) rfl (fun ls hl => ?_)
          refine lv_iconst (v := 0) hx hb dX9_isRace_79 (by decide) ?_
          refine lv_istore (lv' := [(6, .int 0), (5, .int 0), (4, .int z_8), (3, .int (nI p9)), (2, .int (nI r)), (0, .ref h0), (1, .int (nI n))]) hx hb dX9_isRace_80 hl (by decide) rfl (fun ls hl => ?_)
          refine gy_loop0 (I := fun (x9 : Nat) H locs ls => (x9 ≤ 3) ∧ va_P D vwCl [(a2, .inl (cI, 108, .inl kd)), (a3, .inl (cI, 108, .inl cl)), (h0, .inr (9, [.ref a0, .ref a1, .ref a2, .ref a3, v4, v5, v6, v7, v8, v9, v10, v11, .ref a12, v13, v14, v15, v16, v17, v18, v19, v20, v21, v22, v23, v24, v25, v26, v27, v28, v29, v30, v31, v32, v33, v34, v35, v36, v37, v38, v39, v40, v41, .int rR, .int rW, .int rX, v45, v46, v47, v48, v49, v50, v51])), (a0, .inl (cI, 3, .inl (fun j => nI (C j)))), (a1, .inl (cI, 9, .inl (fun j => nI (Mn j)))), (a12, .inl (cI, 522000, .inl sf))] H ∧ va_D A [(a2, .inl (cI, 108, .inl kd)), (a3, .inl (cI, 108, .inl cl)), (h0, .inr (9, [.ref a0, .ref a1, .ref a2, .ref a3, v4, v5, v6, v7, v8, v9, v10, v11, .ref a12, v13, v14, v15, v16, v17, v18, v19, v20, v21, v22, v23, v24, v25, v26, v27, v28, v29, v30, v31, v32, v33, v34, v35, v36, v37, v38, v39, v40, v41, .int rR, .int rW, .int rX, v45, v46, v47, v48, v49, v50, v51])), (a0, .inl (cI, 3, .inl (fun j => nI (C j)))), (a1, .inl (cI, 9, .inl (fun j => nI (Mn j)))), (a12, .inl (cI, 522000, .inl sf))] ∧ va_S A s.heap H locs ∧ lv_has ls 8 [(6, .int (nI x9)), (5, .int 0), (4, .int z_8), (3, .int (nI p9)), (2, .int (nI r)), (0, .ref h0), (1, .int (nI n))]) (μ := fun (x9 : Nat) => 3 - x9) (fun x9 H locs ls hI ih82 => ?_) 0 ⟨(by show 0 ≤ 3; omega), hP, hD, hS, lv_sub hl [0, 1, 2, 3, 4, 5, 6] rfl⟩
          obtain ⟨w, rfl⟩ : ∃ z9, z9 = x9 := ⟨_, rfl⟩
          obtain ⟨hi82_0, hP, hD, hS, hl⟩ := hI
          have hi82_0 : w ≤ 3 := hi82_0
          have hP : va_P D vwCl [(a2, .inl (cI, 108, .inl kd)), (a3, .inl (cI, 108, .inl cl)), (h0, .inr (9, [.ref a0, .ref a1, .ref a2, .ref a3, v4, v5, v6, v7, v8, v9, v10, v11, .ref a12, v13, v14, v15, v16, v17, v18, v19, v20, v21, v22, v23, v24, v25, v26, v27, v28, v29, v30, v31, v32, v33, v34, v35, v36, v37, v38, v39, v40, v41, .int rR, .int rW, .int rX, v45, v46, v47, v48, v49, v50, v51])), (a0, .inl (cI, 3, .inl (fun j => nI (C j)))), (a1, .inl (cI, 9, .inl (fun j => nI (Mn j)))), (a12, .inl (cI, 522000, .inl sf))] H := hP
          have hD : va_D A [(a2, .inl (cI, 108, .inl kd)), (a3, .inl (cI, 108, .inl cl)), (h0, .inr (9, [.ref a0, .ref a1, .ref a2, .ref a3, v4, v5, v6, v7, v8, v9, v10, v11, .ref a12, v13, v14, v15, v16, v17, v18, v19, v20, v21, v22, v23, v24, v25, v26, v27, v28, v29, v30, v31, v32, v33, v34, v35, v36, v37, v38, v39, v40, v41, .int rR, .int rW, .int rX, v45, v46, v47, v48, v49, v50, v51])), (a0, .inl (cI, 3, .inl (fun j => nI (C j)))), (a1, .inl (cI, 9, .inl (fun j => nI (Mn j)))), (a12, .inl (cI, 522000, .inl sf))] := hD
          have hS : va_S A s.heap H locs := hS
          have hl : lv_has ls 8 [(6, .int (nI w)), (5, .int 0), (4, .int z_8), (3, .int (nI p9)), (2, .int (nI r)), (0, .ref h0), (1, .int (nI n))] := hl
          refine lv_iload hx hb dX9_isRace_82 (lv_at hl 0 rfl) ?_
          refine lv_iconst (v := 3) hx hb dX9_isRace_84 (by decide) ?_
          refine gy_ge (a := w) (b := 3) (tgt := 188) hx hb (by omega) (by omega) dX9_isRace_85 (by decide) (fun c_10 => ?_) (fun c_10 => ?_)
          · refine lv_iinc (v := nI (r + 1)) (lv' := [(2, .int (nI (r + 1))), (6, .int (nI w)), (5, .int 0), (4, .int z_8), (3, .int (nI p9)), (0, .ref h0), (1, .int (nI n))]) hx hb dX9_isRace_188 hl (k := 4) rfl (nI_add r 1) (by decide) rfl (fun ls hl => ?_)
            refine lv_goto (tgt := 2) hx hb dX9_isRace_191 (by decide) ?_
            have hP := hP.sub (ws' := [(h0, .inr (9, [.ref a0, .ref a1, .ref a2, .ref a3, v4, v5, v6, v7, v8, v9, v10, v11, .ref a12, v13, v14, v15, v16, v17, v18, v19, v20, v21, v22, v23, v24, v25, v26, v27, v28, v29, v30, v31, v32, v33, v34, v35, v36, v37, v38, v39, v40, v41, .int rR, .int rW, .int rX, v45, v46, v47, v48, v49, v50, v51])), (a0, .inl (cI, 3, .inl (fun j => nI (C j)))), (a1, .inl (cI, 9, .inl (fun j => nI (Mn j)))), (a2, .inl (cI, 108, .inl kd)), (a3, .inl (cI, 108, .inl cl)), (a12, .inl (cI, 522000, .inl sf))]) [2, 3, 4, 0, 1, 5] rfl
            have hD := hD.sub (ws' := [(h0, .inr (9, [.ref a0, .ref a1, .ref a2, .ref a3, v4, v5, v6, v7, v8, v9, v10, v11, .ref a12, v13, v14, v15, v16, v17, v18, v19, v20, v21, v22, v23, v24, v25, v26, v27, v28, v29, v30, v31, v32, v33, v34, v35, v36, v37, v38, v39, v40, v41, .int rR, .int rW, .int rX, v45, v46, v47, v48, v49, v50, v51])), (a0, .inl (cI, 3, .inl (fun j => nI (C j)))), (a1, .inl (cI, 9, .inl (fun j => nI (Mn j)))), (a2, .inl (cI, 108, .inl kd)), (a3, .inl (cI, 108, .inl cl)), (a12, .inl (cI, 522000, .inl sf))]) [2, 3, 4, 0, 1, 5] (by decide) rfl
            exact ih2 (r + 1) H locs ls ⟨(by show (r + 1) ≤ 3; omega), hP, hD, hS, lv_sub hl [0, 5, 6] rfl⟩ (by show 3 - (r + 1) < 3 - r; omega)
          · refine lv_iload hx hb dX9_isRace_88 (lv_at hl 1 rfl) ?_
            refine lv_if_eq (tgt := 188) hx hb dX9_isRace_90 (by decide) (fun _ => ?_) (fun c9 => absurd (by decide) c9)
            refine lv_iinc (v := nI (r + 1)) (lv' := [(2, .int (nI (r + 1))), (6, .int (nI w)), (5, .int 0), (4, .int z_8), (3, .int (nI p9)), (0, .ref h0), (1, .int (nI n))]) hx hb dX9_isRace_188 hl (k := 4) rfl (nI_add r 1) (by decide) rfl (fun ls hl => ?_)
            refine lv_goto (tgt := 2) hx hb dX9_isRace_191 (by decide) ?_
            have hP := hP.sub (ws' := [(h0, .inr (9, [.ref a0, .ref a1, .ref a2, .ref a3, v4, v5, v6, v7, v8, v9, v10, v11, .ref a12, v13, v14, v15, v16, v17, v18, v19, v20, v21, v22, v23, v24, v25, v26, v27, v28, v29, v30, v31, v32, v33, v34, v35, v36, v37, v38, v39, v40, v41, .int rR, .int rW, .int rX, v45, v46, v47, v48, v49, v50, v51])), (a0, .inl (cI, 3, .inl (fun j => nI (C j)))), (a1, .inl (cI, 9, .inl (fun j => nI (Mn j)))), (a2, .inl (cI, 108, .inl kd)), (a3, .inl (cI, 108, .inl cl)), (a12, .inl (cI, 522000, .inl sf))]) [2, 3, 4, 0, 1, 5] rfl
            have hD := hD.sub (ws' := [(h0, .inr (9, [.ref a0, .ref a1, .ref a2, .ref a3, v4, v5, v6, v7, v8, v9, v10, v11, .ref a12, v13, v14, v15, v16, v17, v18, v19, v20, v21, v22, v23, v24, v25, v26, v27, v28, v29, v30, v31, v32, v33, v34, v35, v36, v37, v38, v39, v40, v41, .int rR, .int rW, .int rX, v45, v46, v47, v48, v49, v50, v51])), (a0, .inl (cI, 3, .inl (fun j => nI (C j)))), (a1, .inl (cI, 9, .inl (fun j => nI (Mn j)))), (a2, .inl (cI, 108, .inl kd)), (a3, .inl (cI, 108, .inl cl)), (a12, .inl (cI, 522000, .inl sf))]) [2, 3, 4, 0, 1, 5] (by decide) rfl
            exact ih2 (r + 1) H locs ls ⟨(by show (r + 1) ≤ 3; omega), hP, hD, hS, lv_sub hl [0, 5, 6] rfl⟩ (by show 3 - (r + 1) < 3 - r; omega)
        · refine lv_aload_n hx hb dX9_isRace_44 rfl (lv_at hl 3 rfl) ?_
          refine va_get (D := D) (ci := 9) (v := .ref a12) (C := RX9) (T := TX9) (N := 52) hx hb hts (fun _ h => List.mem_cons_of_mem _ (List.mem_append_left _ (List.mem_append_right _ h))) hown hK hP 2 rfl rfl 12 (by decide) (hts (.fieldLink RX9 44 "LitmusHallModel" "state" "[I") (by decide +kernel)) (fun _ h9 => h9) rfl dX9_isRace_45 ?_
          refine lv_sipush (v := 6000) hx hb dX9_isRace_48 (by decide) ?_
          refine lv_iload_n hx hb dX9_isRace_51 rfl (lv_at hl 4 rfl) ?_
          refine lv_iadd hx hb dX9_isRace_52 ?_
          refine gx_top (y := nI (6000 + n)) (nI_add 6000 n) ?_
          refine lv_bipush (v := 58) hx hb dX9_isRace_53 (by decide) ?_
          refine lv_imul hx hb dX9_isRace_55 ?_
          refine gx_top (y := nI ((6000 + n) * 58)) (pk_mul (6000 + n) 58) ?_
          refine lv_bipush (v := 55) hx hb dX9_isRace_56 (by decide) ?_
          refine lv_iadd hx hb dX9_isRace_58 ?_
          refine gx_top (y := nI (((6000 + n) * 58) + 55)) (nI_add ((6000 + n) * 58) 55) ?_
          refine lv_iload_n hx hb dX9_isRace_59 rfl (lv_at hl 2 rfl) ?_
          refine lv_iadd hx hb dX9_isRace_60 ?_
          refine gx_top (y := nI ((((6000 + n) * 58) + 55) + r)) (nI_add (((6000 + n) * 58) + 55) r) ?_
          refine gy_ild (i := ((((6000 + n) * 58) + 55) + r)) hx hb hK hP 5 rfl (by omega) (by omega) dX9_isRace_61 ?_
          refine gx_gen (fun z_11 => ?_)
          refine lv_iconst (v := 1) hx hb dX9_isRace_62 (by decide) ?_
          refine lv_iload hx hb dX9_isRace_63 (lv_at hl 0 rfl) ?_
          refine lv_ishl hx hb dX9_isRace_65 ?_
          refine gx_gen (fun z_12 => ?_)
          refine lv_iconst (v := (-1)) hx hb dX9_isRace_66 (by decide) ?_
          refine lv_ixor hx hb dX9_isRace_67 ?_
          refine gx_gen (fun z_13 => ?_)
          refine lv_iand hx hb dX9_isRace_68 ?_
          refine gx_gen (fun z_14 => ?_)
          refine lv_if_eq (tgt := 76) hx hb dX9_isRace_69 (by decide) (fun c_15 => ?_) (fun c_15 => ?_)
          · refine lv_iconst (v := 0) hx hb dX9_isRace_76 (by decide) ?_
            refine lv_istore (lv' := [(5, .int 0), (4, .int z_8), (3, .int (nI p9)), (2, .int (nI r)), (0, .ref h0), (1, .int (nI n))]) hx hb dX9_isRace_77 hl (by decide) rfl (fun ls hl => ?_)
            refine lv_iconst (v := 0) hx hb dX9_isRace_79 (by decide) ?_
            refine lv_istore (lv' := [(6, .int 0), (5, .int 0), (4, .int z_8), (3, .int (nI p9)), (2, .int (nI r)), (0, .ref h0), (1, .int (nI n))]) hx hb dX9_isRace_80 hl (by decide) rfl (fun ls hl => ?_)
            refine gy_loop0 (I := fun (x9 : Nat) H locs ls => (x9 ≤ 3) ∧ va_P D vwCl [(a2, .inl (cI, 108, .inl kd)), (a3, .inl (cI, 108, .inl cl)), (h0, .inr (9, [.ref a0, .ref a1, .ref a2, .ref a3, v4, v5, v6, v7, v8, v9, v10, v11, .ref a12, v13, v14, v15, v16, v17, v18, v19, v20, v21, v22, v23, v24, v25, v26, v27, v28, v29, v30, v31, v32, v33, v34, v35, v36, v37, v38, v39, v40, v41, .int rR, .int rW, .int rX, v45, v46, v47, v48, v49, v50, v51])), (a0, .inl (cI, 3, .inl (fun j => nI (C j)))), (a1, .inl (cI, 9, .inl (fun j => nI (Mn j)))), (a12, .inl (cI, 522000, .inl sf))] H ∧ va_D A [(a2, .inl (cI, 108, .inl kd)), (a3, .inl (cI, 108, .inl cl)), (h0, .inr (9, [.ref a0, .ref a1, .ref a2, .ref a3, v4, v5, v6, v7, v8, v9, v10, v11, .ref a12, v13, v14, v15, v16, v17, v18, v19, v20, v21, v22, v23, v24, v25, v26, v27, v28, v29, v30, v31, v32, v33, v34, v35, v36, v37, v38, v39, v40, v41, .int rR, .int rW, .int rX, v45, v46, v47, v48, v49, v50, v51])), (a0, .inl (cI, 3, .inl (fun j => nI (C j)))), (a1, .inl (cI, 9, .inl (fun j => nI (Mn j)))), (a12, .inl (cI, 522000, .inl sf))] ∧ va_S A s.heap H locs ∧ lv_has ls 8 [(6, .int (nI x9)), (5, .int 0), (4, .int z_8), (3, .int (nI p9)), (2, .int (nI r)), (0, .ref h0), (1, .int (nI n))]) (μ := fun (x9 : Nat) => 3 - x9) (fun x9 H locs ls hI ih82 => ?_) 0 ⟨(by show 0 ≤ 3; omega), hP, hD, hS, lv_sub hl [0, 1, 2, 3, 4, 5, 6] rfl⟩
            obtain ⟨w, rfl⟩ : ∃ z9, z9 = x9 := ⟨_, rfl⟩
            obtain ⟨hi82_0, hP, hD, hS, hl⟩ := hI
            have hi82_0 : w ≤ 3 := hi82_0
            have hP : va_P D vwCl [(a2, .inl (cI, 108, .inl kd)), (a3, .inl (cI, 108, .inl cl)), (h0, .inr (9, [.ref a0, .ref a1, .ref a2, .ref a3, v4, v5, v6, v7, v8, v9, v10, v11, .ref a12, v13, v14, v15, v16, v17, v18, v19, v20, v21, v22, v23, v24, v25, v26, v27, v28, v29, v30, v31, v32, v33, v34, v35, v36, v37, v38, v39, v40, v41, .int rR, .int rW, .int rX, v45, v46, v47, v48, v49, v50, v51])), (a0, .inl (cI, 3, .inl (fun j => nI (C j)))), (a1, .inl (cI, 9, .inl (fun j => nI (Mn j)))), (a12, .inl (cI, 522000, .inl sf))] H := hP
            have hD : va_D A [(a2, .inl (cI, 108, .inl kd)), (a3, .inl (cI, 108, .inl cl)), (h0, .inr (9, [.ref a0, .ref a1, .ref a2, .ref a3, v4, v5, v6, v7, v8, v9, v10, v11, .ref a12, v13, v14, v15, v16, v17, v18, v19, v20, v21, v22, v23, v24, v25, v26, v27, v28, v29, v30, v31, v32, v33, v34, v35, v36, v37, v38, v39, v40, v41, .int rR, .int rW, .int rX, v45, v46, v47, v48, v49, v50, v51])), (a0, .inl (cI, 3, .inl (fun j => nI (C j)))), (a1, .inl (cI, 9, .inl (fun j => nI (Mn j)))), (a12, .inl (cI, 522000, .inl sf))] := hD
            have hS : va_S A s.heap H locs := hS
            have hl : lv_has ls 8 [(6, .int (nI w)), (5, .int 0), (4, .int z_8), (3, .int (nI p9)), (2, .int (nI r)), (0, .ref h0), (1, .int (nI n))] := hl
            refine lv_iload hx hb dX9_isRace_82 (lv_at hl 0 rfl) ?_
            refine lv_iconst (v := 3) hx hb dX9_isRace_84 (by decide) ?_
            refine gy_ge (a := w) (b := 3) (tgt := 188) hx hb (by omega) (by omega) dX9_isRace_85 (by decide) (fun c_16 => ?_) (fun c_16 => ?_)
            · refine lv_iinc (v := nI (r + 1)) (lv' := [(2, .int (nI (r + 1))), (6, .int (nI w)), (5, .int 0), (4, .int z_8), (3, .int (nI p9)), (0, .ref h0), (1, .int (nI n))]) hx hb dX9_isRace_188 hl (k := 4) rfl (nI_add r 1) (by decide) rfl (fun ls hl => ?_)
              refine lv_goto (tgt := 2) hx hb dX9_isRace_191 (by decide) ?_
              have hP := hP.sub (ws' := [(h0, .inr (9, [.ref a0, .ref a1, .ref a2, .ref a3, v4, v5, v6, v7, v8, v9, v10, v11, .ref a12, v13, v14, v15, v16, v17, v18, v19, v20, v21, v22, v23, v24, v25, v26, v27, v28, v29, v30, v31, v32, v33, v34, v35, v36, v37, v38, v39, v40, v41, .int rR, .int rW, .int rX, v45, v46, v47, v48, v49, v50, v51])), (a0, .inl (cI, 3, .inl (fun j => nI (C j)))), (a1, .inl (cI, 9, .inl (fun j => nI (Mn j)))), (a2, .inl (cI, 108, .inl kd)), (a3, .inl (cI, 108, .inl cl)), (a12, .inl (cI, 522000, .inl sf))]) [2, 3, 4, 0, 1, 5] rfl
              have hD := hD.sub (ws' := [(h0, .inr (9, [.ref a0, .ref a1, .ref a2, .ref a3, v4, v5, v6, v7, v8, v9, v10, v11, .ref a12, v13, v14, v15, v16, v17, v18, v19, v20, v21, v22, v23, v24, v25, v26, v27, v28, v29, v30, v31, v32, v33, v34, v35, v36, v37, v38, v39, v40, v41, .int rR, .int rW, .int rX, v45, v46, v47, v48, v49, v50, v51])), (a0, .inl (cI, 3, .inl (fun j => nI (C j)))), (a1, .inl (cI, 9, .inl (fun j => nI (Mn j)))), (a2, .inl (cI, 108, .inl kd)), (a3, .inl (cI, 108, .inl cl)), (a12, .inl (cI, 522000, .inl sf))]) [2, 3, 4, 0, 1, 5] (by decide) rfl
              exact ih2 (r + 1) H locs ls ⟨(by show (r + 1) ≤ 3; omega), hP, hD, hS, lv_sub hl [0, 5, 6] rfl⟩ (by show 3 - (r + 1) < 3 - r; omega)
            · refine lv_iload hx hb dX9_isRace_88 (lv_at hl 1 rfl) ?_
              refine lv_if_eq (tgt := 188) hx hb dX9_isRace_90 (by decide) (fun _ => ?_) (fun c9 => absurd (by decide) c9)
              refine lv_iinc (v := nI (r + 1)) (lv' := [(2, .int (nI (r + 1))), (6, .int (nI w)), (5, .int 0), (4, .int z_8), (3, .int (nI p9)), (0, .ref h0), (1, .int (nI n))]) hx hb dX9_isRace_188 hl (k := 4) rfl (nI_add r 1) (by decide) rfl (fun ls hl => ?_)
              refine lv_goto (tgt := 2) hx hb dX9_isRace_191 (by decide) ?_
              have hP := hP.sub (ws' := [(h0, .inr (9, [.ref a0, .ref a1, .ref a2, .ref a3, v4, v5, v6, v7, v8, v9, v10, v11, .ref a12, v13, v14, v15, v16, v17, v18, v19, v20, v21, v22, v23, v24, v25, v26, v27, v28, v29, v30, v31, v32, v33, v34, v35, v36, v37, v38, v39, v40, v41, .int rR, .int rW, .int rX, v45, v46, v47, v48, v49, v50, v51])), (a0, .inl (cI, 3, .inl (fun j => nI (C j)))), (a1, .inl (cI, 9, .inl (fun j => nI (Mn j)))), (a2, .inl (cI, 108, .inl kd)), (a3, .inl (cI, 108, .inl cl)), (a12, .inl (cI, 522000, .inl sf))]) [2, 3, 4, 0, 1, 5] rfl
              have hD := hD.sub (ws' := [(h0, .inr (9, [.ref a0, .ref a1, .ref a2, .ref a3, v4, v5, v6, v7, v8, v9, v10, v11, .ref a12, v13, v14, v15, v16, v17, v18, v19, v20, v21, v22, v23, v24, v25, v26, v27, v28, v29, v30, v31, v32, v33, v34, v35, v36, v37, v38, v39, v40, v41, .int rR, .int rW, .int rX, v45, v46, v47, v48, v49, v50, v51])), (a0, .inl (cI, 3, .inl (fun j => nI (C j)))), (a1, .inl (cI, 9, .inl (fun j => nI (Mn j)))), (a2, .inl (cI, 108, .inl kd)), (a3, .inl (cI, 108, .inl cl)), (a12, .inl (cI, 522000, .inl sf))]) [2, 3, 4, 0, 1, 5] (by decide) rfl
              exact ih2 (r + 1) H locs ls ⟨(by show (r + 1) ≤ 3; omega), hP, hD, hS, lv_sub hl [0, 5, 6] rfl⟩ (by show 3 - (r + 1) < 3 - r; omega)
          · refine lv_iconst (v := 1) hx hb dX9_isRace_72 (by decide) ?_
            refine lv_goto (tgt := 77) hx hb dX9_isRace_73 (by decide) ?_
            refine lv_istore (lv' := [(5, .int 1), (4, .int z_8), (3, .int (nI p9)), (2, .int (nI r)), (0, .ref h0), (1, .int (nI n))]) hx hb dX9_isRace_77 hl (by decide) rfl (fun ls hl => ?_)
            refine lv_iconst (v := 0) hx hb dX9_isRace_79 (by decide) ?_
            refine lv_istore (lv' := [(6, .int 0), (5, .int 1), (4, .int z_8), (3, .int (nI p9)), (2, .int (nI r)), (0, .ref h0), (1, .int (nI n))]) hx hb dX9_isRace_80 hl (by decide) rfl (fun ls hl => ?_)
            refine gy_loop0 (I := fun (x9 : Nat) H locs ls => (x9 ≤ 3) ∧ va_P D vwCl [(a2, .inl (cI, 108, .inl kd)), (a3, .inl (cI, 108, .inl cl)), (h0, .inr (9, [.ref a0, .ref a1, .ref a2, .ref a3, v4, v5, v6, v7, v8, v9, v10, v11, .ref a12, v13, v14, v15, v16, v17, v18, v19, v20, v21, v22, v23, v24, v25, v26, v27, v28, v29, v30, v31, v32, v33, v34, v35, v36, v37, v38, v39, v40, v41, .int rR, .int rW, .int rX, v45, v46, v47, v48, v49, v50, v51])), (a0, .inl (cI, 3, .inl (fun j => nI (C j)))), (a1, .inl (cI, 9, .inl (fun j => nI (Mn j)))), (a12, .inl (cI, 522000, .inl sf))] H ∧ va_D A [(a2, .inl (cI, 108, .inl kd)), (a3, .inl (cI, 108, .inl cl)), (h0, .inr (9, [.ref a0, .ref a1, .ref a2, .ref a3, v4, v5, v6, v7, v8, v9, v10, v11, .ref a12, v13, v14, v15, v16, v17, v18, v19, v20, v21, v22, v23, v24, v25, v26, v27, v28, v29, v30, v31, v32, v33, v34, v35, v36, v37, v38, v39, v40, v41, .int rR, .int rW, .int rX, v45, v46, v47, v48, v49, v50, v51])), (a0, .inl (cI, 3, .inl (fun j => nI (C j)))), (a1, .inl (cI, 9, .inl (fun j => nI (Mn j)))), (a12, .inl (cI, 522000, .inl sf))] ∧ va_S A s.heap H locs ∧ lv_has ls 8 [(6, .int (nI x9)), (5, .int 1), (4, .int z_8), (3, .int (nI p9)), (2, .int (nI r)), (0, .ref h0), (1, .int (nI n))]) (μ := fun (x9 : Nat) => 3 - x9) (fun x9 H locs ls hI ih82 => ?_) 0 ⟨(by show 0 ≤ 3; omega), hP, hD, hS, lv_sub hl [0, 1, 2, 3, 4, 5, 6] rfl⟩
            obtain ⟨w, rfl⟩ : ∃ z9, z9 = x9 := ⟨_, rfl⟩
            obtain ⟨hi82_0, hP, hD, hS, hl⟩ := hI
            have hi82_0 : w ≤ 3 := hi82_0
            have hP : va_P D vwCl [(a2, .inl (cI, 108, .inl kd)), (a3, .inl (cI, 108, .inl cl)), (h0, .inr (9, [.ref a0, .ref a1, .ref a2, .ref a3, v4, v5, v6, v7, v8, v9, v10, v11, .ref a12, v13, v14, v15, v16, v17, v18, v19, v20, v21, v22, v23, v24, v25, v26, v27, v28, v29, v30, v31, v32, v33, v34, v35, v36, v37, v38, v39, v40, v41, .int rR, .int rW, .int rX, v45, v46, v47, v48, v49, v50, v51])), (a0, .inl (cI, 3, .inl (fun j => nI (C j)))), (a1, .inl (cI, 9, .inl (fun j => nI (Mn j)))), (a12, .inl (cI, 522000, .inl sf))] H := hP
            have hD : va_D A [(a2, .inl (cI, 108, .inl kd)), (a3, .inl (cI, 108, .inl cl)), (h0, .inr (9, [.ref a0, .ref a1, .ref a2, .ref a3, v4, v5, v6, v7, v8, v9, v10, v11, .ref a12, v13, v14, v15, v16, v17, v18, v19, v20, v21, v22, v23, v24, v25, v26, v27, v28, v29, v30, v31, v32, v33, v34, v35, v36, v37, v38, v39, v40, v41, .int rR, .int rW, .int rX, v45, v46, v47, v48, v49, v50, v51])), (a0, .inl (cI, 3, .inl (fun j => nI (C j)))), (a1, .inl (cI, 9, .inl (fun j => nI (Mn j)))), (a12, .inl (cI, 522000, .inl sf))] := hD
            have hS : va_S A s.heap H locs := hS
            have hl : lv_has ls 8 [(6, .int (nI w)), (5, .int 1), (4, .int z_8), (3, .int (nI p9)), (2, .int (nI r)), (0, .ref h0), (1, .int (nI n))] := hl
            refine lv_iload hx hb dX9_isRace_82 (lv_at hl 0 rfl) ?_
            refine lv_iconst (v := 3) hx hb dX9_isRace_84 (by decide) ?_
            refine gy_ge (a := w) (b := 3) (tgt := 188) hx hb (by omega) (by omega) dX9_isRace_85 (by decide) (fun c_17 => ?_) (fun c_17 => ?_)
            · refine lv_iinc (v := nI (r + 1)) (lv' := [(2, .int (nI (r + 1))), (6, .int (nI w)), (5, .int 1), (4, .int z_8), (3, .int (nI p9)), (0, .ref h0), (1, .int (nI n))]) hx hb dX9_isRace_188 hl (k := 4) rfl (nI_add r 1) (by decide) rfl (fun ls hl => ?_)
              refine lv_goto (tgt := 2) hx hb dX9_isRace_191 (by decide) ?_
              have hP := hP.sub (ws' := [(h0, .inr (9, [.ref a0, .ref a1, .ref a2, .ref a3, v4, v5, v6, v7, v8, v9, v10, v11, .ref a12, v13, v14, v15, v16, v17, v18, v19, v20, v21, v22, v23, v24, v25, v26, v27, v28, v29, v30, v31, v32, v33, v34, v35, v36, v37, v38, v39, v40, v41, .int rR, .int rW, .int rX, v45, v46, v47, v48, v49, v50, v51])), (a0, .inl (cI, 3, .inl (fun j => nI (C j)))), (a1, .inl (cI, 9, .inl (fun j => nI (Mn j)))), (a2, .inl (cI, 108, .inl kd)), (a3, .inl (cI, 108, .inl cl)), (a12, .inl (cI, 522000, .inl sf))]) [2, 3, 4, 0, 1, 5] rfl
              have hD := hD.sub (ws' := [(h0, .inr (9, [.ref a0, .ref a1, .ref a2, .ref a3, v4, v5, v6, v7, v8, v9, v10, v11, .ref a12, v13, v14, v15, v16, v17, v18, v19, v20, v21, v22, v23, v24, v25, v26, v27, v28, v29, v30, v31, v32, v33, v34, v35, v36, v37, v38, v39, v40, v41, .int rR, .int rW, .int rX, v45, v46, v47, v48, v49, v50, v51])), (a0, .inl (cI, 3, .inl (fun j => nI (C j)))), (a1, .inl (cI, 9, .inl (fun j => nI (Mn j)))), (a2, .inl (cI, 108, .inl kd)), (a3, .inl (cI, 108, .inl cl)), (a12, .inl (cI, 522000, .inl sf))]) [2, 3, 4, 0, 1, 5] (by decide) rfl
              exact ih2 (r + 1) H locs ls ⟨(by show (r + 1) ≤ 3; omega), hP, hD, hS, lv_sub hl [0, 5, 6] rfl⟩ (by show 3 - (r + 1) < 3 - r; omega)
            · refine lv_iload hx hb dX9_isRace_88 (lv_at hl 1 rfl) ?_
              refine lv_if_eq (tgt := 188) hx hb dX9_isRace_90 (by decide) (fun c9 => absurd c9 (by decide)) (fun _ => ?_)
              refine lv_iload hx hb dX9_isRace_93 (lv_at hl 0 rfl) ?_
              refine lv_iload_n hx hb dX9_isRace_95 rfl (lv_at hl 4 rfl) ?_
              refine gy_ne (a := w) (b := r) (tgt := 103) hx hb (by omega) (by omega) dX9_isRace_96 (by decide) (fun c_18 => ?_) (fun c_18 => ?_)
              · refine lv_aload_n hx hb dX9_isRace_103 rfl (lv_at hl 5 rfl) ?_
                refine lv_iload_n hx hb dX9_isRace_104 rfl (lv_at hl 6 rfl) ?_
                refine lv_iload hx hb dX9_isRace_105 (lv_at hl 0 rfl) ?_
                refine gx_goi (wc := [(h0, .inr (9, [.ref a0, .ref a1, .ref a2, .ref a3, v4, v5, v6, v7, v8, v9, v10, v11, .ref a12, v13, v14, v15, v16, v17, v18, v19, v20, v21, v22, v23, v24, v25, v26, v27, v28, v29, v30, v31, v32, v33, v34, v35, v36, v37, v38, v39, v40, v41, .int rR, .int rW, .int rX, v45, v46, v47, v48, v49, v50, v51])), (a0, .inl (cI, 3, .inl (fun j => nI (C j)))), (a1, .inl (cI, 9, .inl (fun j => nI (Mn j)))), (a12, .inl (cI, 522000, .inl sf))]) (wr := [(a2, .inl (cI, 108, .inl kd)), (a3, .inl (cI, 108, .inl cl))]) (va_runV (As := [.int (nI n), .int (nI w)]) (rest := []) ⟨hx, hb, hml, hown, hts⟩ (c_nextOf9 l D cI cB cZ h0 a0 a1 a12 (.ref a2) (.ref a3) (v4) (v5) (v6) (v7) (v8) (v9) (v10) (v11) (v13) (v14) (v15) (v16) (v17) (v18) (v19) (v20) (v21) (v22) (v23) (v24) (v25) (v26) (v27) (v28) (v29) (v30) (v31) (v32) (v33) (v34) (v35) (v36) (v37) (v38) (v39) (v40) (v41) (.int rR) (.int rW) (.int rX) (v45) (v46) (v47) (v48) (v49) (v50) (v51) C Mn sf n w (nx w) hC hMn (by omega) (by omega) (by have := (hrow w (by omega)).2; omega) (hrow w (by omega)).1 _) (cwV 2 hts gP_c_isRace9__c_nextOf9 rfl rfl rfl (by decide +kernel) ⟨Nat.le_of_ble_eq_true rfl, Nat.le_of_ble_eq_true rfl⟩) (gx_preV (ci := 9) (q0 := 0) hK gN.nil hP hD [2, 3, 4, 5] rfl rfl rfl rfl) rfl rfl hl.1 rfl (lv_room (Nat.le_of_ble_eq_true rfl)) dX9_isRace_107 ⟨Nat.le_of_ble_eq_true rfl, Nat.le_of_ble_eq_true rfl⟩) hP hD hS hA [2, 3, 4, 5] [0, 1] rfl rfl rfl (by decide) (fun r1 w1 H locs hp hP hD hS => ?_)
                obtain ⟨zq9, hq_19, h9, rfl⟩ := hp
                have h9 := h9.symm
                subst h9
                have hq_19 : zq9 = (-1) ∨ ∃ q, q < 36 ∧ q = 12 * w + (nx w) ∧ w < C 0 ∧ (nx w) < Mn w ∧ zq9 = nI q := hq_19
                refine lv_istore (lv' := [(7, .int zq9), (6, .int (nI w)), (5, .int 1), (4, .int z_8), (3, .int (nI p9)), (2, .int (nI r)), (0, .ref h0), (1, .int (nI n))]) hx hb dX9_isRace_110 hl (by decide) rfl (fun ls hl => ?_)
                refine lv_iload hx hb dX9_isRace_112 (lv_at hl 0 rfl) ?_
                refine lv_if_lt (tgt := 182) hx hb dX9_isRace_114 (by decide) (fun c_20 => ?_) (fun c_20 => ?_)
                · refine lv_iinc (v := nI (w + 1)) (lv' := [(6, .int (nI (w + 1))), (7, .int zq9), (5, .int 1), (4, .int z_8), (3, .int (nI p9)), (2, .int (nI r)), (0, .ref h0), (1, .int (nI n))]) hx hb dX9_isRace_182 hl (k := 1) rfl (nI_add w 1) (by decide) rfl (fun ls hl => ?_)
                  refine lv_goto (tgt := 82) hx hb dX9_isRace_185 (by decide) ?_
                  exact ih82 (w + 1) H locs ls ⟨(by show (w + 1) ≤ 3; omega), hP, hD, hS, lv_sub hl [0, 2, 3, 4, 5, 6, 7] rfl⟩ (by show 3 - (w + 1) < 3 - w; omega)
                · obtain ⟨q9, hq9, _, _, _, rfl⟩ := (hq_19).resolve_left (fun e9 => gNn e9 c_20)
                  have hl : lv_has ls 8 [(7, .int (nI q9)), (6, .int (nI w)), (5, .int 1), (4, .int z_8), (3, .int (nI p9)), (2, .int (nI r)), (0, .ref h0), (1, .int (nI n))] := hl
                  refine lv_aload_n hx hb dX9_isRace_117 rfl (lv_at hl 6 rfl) ?_
                  refine va_get (D := D) (ci := 9) (v := .ref a3) (C := RX9) (T := TX9) (N := 52) hx hb hts (fun _ h => List.mem_cons_of_mem _ (List.mem_append_left _ (List.mem_append_right _ h))) hown hK hP 2 rfl rfl 3 (by decide) (hts (.fieldLink RX9 19 "LitmusHallModel" "cellOf" "[I") (by decide +kernel)) (fun _ h9 => h9) rfl dX9_isRace_118 ?_
                  refine lv_iload hx hb dX9_isRace_121 (lv_at hl 0 rfl) ?_
                  refine gy_ild (i := q9) hx hb hK hP 1 rfl (by omega) (by omega) dX9_isRace_123 ?_
                  refine gx_gen (fun z_21 => ?_)
                  refine lv_iload hx hb dX9_isRace_124 (lv_at hl 3 rfl) ?_
                  refine lv_icmp_ne (tgt := 182) hx hb dX9_isRace_126 (by decide) (fun c_22 => ?_) (fun c_22 => ?_)
                  · refine lv_iinc (v := nI (w + 1)) (lv' := [(6, .int (nI (w + 1))), (7, .int (nI q9)), (5, .int 1), (4, .int z_8), (3, .int (nI p9)), (2, .int (nI r)), (0, .ref h0), (1, .int (nI n))]) hx hb dX9_isRace_182 hl (k := 1) rfl (nI_add w 1) (by decide) rfl (fun ls hl => ?_)
                    refine lv_goto (tgt := 82) hx hb dX9_isRace_185 (by decide) ?_
                    exact ih82 (w + 1) H locs ls ⟨(by show (w + 1) ≤ 3; omega), hP, hD, hS, lv_sub hl [0, 2, 3, 4, 5, 6, 7] rfl⟩ (by show 3 - (w + 1) < 3 - w; omega)
                  · refine lv_aload_n hx hb dX9_isRace_129 rfl (lv_at hl 6 rfl) ?_
                    refine va_get (D := D) (ci := 9) (v := .ref a2) (C := RX9) (T := TX9) (N := 52) hx hb hts (fun _ h => List.mem_cons_of_mem _ (List.mem_append_left _ (List.mem_append_right _ h))) hown hK hP 2 rfl rfl 2 (by decide) (hts (.fieldLink RX9 16 "LitmusHallModel" "kind" "[I") (by decide +kernel)) (fun _ h9 => h9) rfl dX9_isRace_130 ?_
                    refine lv_iload hx hb dX9_isRace_133 (lv_at hl 0 rfl) ?_
                    refine gy_ild (i := q9) hx hb hK hP 0 rfl (by omega) (by omega) dX9_isRace_135 ?_
                    refine gx_gen (fun z_23 => ?_)
                    refine lv_iconst (v := 1) hx hb dX9_isRace_136 (by decide) ?_
                    refine lv_icmp_eq (tgt := 163) hx hb dX9_isRace_137 (by decide) (fun c_24 => ?_) (fun c_24 => ?_)
                    · refine lv_aload_n hx hb dX9_isRace_163 rfl (lv_at hl 6 rfl) ?_
                      refine lv_iload_n hx hb dX9_isRace_164 rfl (lv_at hl 5 rfl) ?_
                      refine va_put (D := D) (ci := 9) (v := .int (nI r)) (ty := .int) (C := RX9) (T := TX9) (N := 52) hx hb hts (fun _ h => List.mem_cons_of_mem _ (List.mem_append_left _ (List.mem_append_right _ h))) tyX9 tyX9_ok nmX9 hown hK hP hD hS 2 rfl rfl 42 (by decide) (hts (.fieldLink RX9 362 "LitmusHallModel" "raceR" "I") (by decide +kernel)) (fun _ h9 => h9) rfl (by decide +kernel) rfl rfl (Nat.le_of_ble_eq_true rfl) dX9_isRace_165 (fun H locs hP hD hS => ?_)
                      have hP : va_P D vwCl [(a2, .inl (cI, 108, .inl kd)), (a3, .inl (cI, 108, .inl cl)), (h0, .inr (9, [.ref a0, .ref a1, .ref a2, .ref a3, v4, v5, v6, v7, v8, v9, v10, v11, .ref a12, v13, v14, v15, v16, v17, v18, v19, v20, v21, v22, v23, v24, v25, v26, v27, v28, v29, v30, v31, v32, v33, v34, v35, v36, v37, v38, v39, v40, v41, .int (nI r), .int rW, .int rX, v45, v46, v47, v48, v49, v50, v51])), (a0, .inl (cI, 3, .inl (fun j => nI (C j)))), (a1, .inl (cI, 9, .inl (fun j => nI (Mn j)))), (a12, .inl (cI, 522000, .inl sf))] H := hP
                      have hD : va_D A [(a2, .inl (cI, 108, .inl kd)), (a3, .inl (cI, 108, .inl cl)), (h0, .inr (9, [.ref a0, .ref a1, .ref a2, .ref a3, v4, v5, v6, v7, v8, v9, v10, v11, .ref a12, v13, v14, v15, v16, v17, v18, v19, v20, v21, v22, v23, v24, v25, v26, v27, v28, v29, v30, v31, v32, v33, v34, v35, v36, v37, v38, v39, v40, v41, .int (nI r), .int rW, .int rX, v45, v46, v47, v48, v49, v50, v51])), (a0, .inl (cI, 3, .inl (fun j => nI (C j)))), (a1, .inl (cI, 9, .inl (fun j => nI (Mn j)))), (a12, .inl (cI, 522000, .inl sf))] := hD
                      refine lv_aload_n hx hb dX9_isRace_168 rfl (lv_at hl 6 rfl) ?_
                      refine lv_iload hx hb dX9_isRace_169 (lv_at hl 1 rfl) ?_
                      refine va_put (D := D) (ci := 9) (v := .int (nI w)) (ty := .int) (C := RX9) (T := TX9) (N := 52) hx hb hts (fun _ h => List.mem_cons_of_mem _ (List.mem_append_left _ (List.mem_append_right _ h))) tyX9 tyX9_ok nmX9 hown hK hP hD hS 2 rfl rfl 43 (by decide) (hts (.fieldLink RX9 365 "LitmusHallModel" "raceW" "I") (by decide +kernel)) (fun _ h9 => h9) rfl (by decide +kernel) rfl rfl (Nat.le_of_ble_eq_true rfl) dX9_isRace_171 (fun H locs hP hD hS => ?_)
                      have hP : va_P D vwCl [(a2, .inl (cI, 108, .inl kd)), (a3, .inl (cI, 108, .inl cl)), (h0, .inr (9, [.ref a0, .ref a1, .ref a2, .ref a3, v4, v5, v6, v7, v8, v9, v10, v11, .ref a12, v13, v14, v15, v16, v17, v18, v19, v20, v21, v22, v23, v24, v25, v26, v27, v28, v29, v30, v31, v32, v33, v34, v35, v36, v37, v38, v39, v40, v41, .int (nI r), .int (nI w), .int rX, v45, v46, v47, v48, v49, v50, v51])), (a0, .inl (cI, 3, .inl (fun j => nI (C j)))), (a1, .inl (cI, 9, .inl (fun j => nI (Mn j)))), (a12, .inl (cI, 522000, .inl sf))] H := hP
                      have hD : va_D A [(a2, .inl (cI, 108, .inl kd)), (a3, .inl (cI, 108, .inl cl)), (h0, .inr (9, [.ref a0, .ref a1, .ref a2, .ref a3, v4, v5, v6, v7, v8, v9, v10, v11, .ref a12, v13, v14, v15, v16, v17, v18, v19, v20, v21, v22, v23, v24, v25, v26, v27, v28, v29, v30, v31, v32, v33, v34, v35, v36, v37, v38, v39, v40, v41, .int (nI r), .int (nI w), .int rX, v45, v46, v47, v48, v49, v50, v51])), (a0, .inl (cI, 3, .inl (fun j => nI (C j)))), (a1, .inl (cI, 9, .inl (fun j => nI (Mn j)))), (a12, .inl (cI, 522000, .inl sf))] := hD
                      refine lv_aload_n hx hb dX9_isRace_174 rfl (lv_at hl 6 rfl) ?_
                      refine lv_iload hx hb dX9_isRace_175 (lv_at hl 3 rfl) ?_
                      refine va_put (D := D) (ci := 9) (v := .int z_8) (ty := .int) (C := RX9) (T := TX9) (N := 52) hx hb hts (fun _ h => List.mem_cons_of_mem _ (List.mem_append_left _ (List.mem_append_right _ h))) tyX9 tyX9_ok nmX9 hown hK hP hD hS 2 rfl rfl 44 (by decide) (hts (.fieldLink RX9 368 "LitmusHallModel" "raceX" "I") (by decide +kernel)) (fun _ h9 => h9) rfl (by decide +kernel) rfl rfl (Nat.le_of_ble_eq_true rfl) dX9_isRace_177 (fun H locs hP hD hS => ?_)
                      have hP : va_P D vwCl [(a2, .inl (cI, 108, .inl kd)), (a3, .inl (cI, 108, .inl cl)), (h0, .inr (9, [.ref a0, .ref a1, .ref a2, .ref a3, v4, v5, v6, v7, v8, v9, v10, v11, .ref a12, v13, v14, v15, v16, v17, v18, v19, v20, v21, v22, v23, v24, v25, v26, v27, v28, v29, v30, v31, v32, v33, v34, v35, v36, v37, v38, v39, v40, v41, .int (nI r), .int (nI w), .int z_8, v45, v46, v47, v48, v49, v50, v51])), (a0, .inl (cI, 3, .inl (fun j => nI (C j)))), (a1, .inl (cI, 9, .inl (fun j => nI (Mn j)))), (a12, .inl (cI, 522000, .inl sf))] H := hP
                      have hD : va_D A [(a2, .inl (cI, 108, .inl kd)), (a3, .inl (cI, 108, .inl cl)), (h0, .inr (9, [.ref a0, .ref a1, .ref a2, .ref a3, v4, v5, v6, v7, v8, v9, v10, v11, .ref a12, v13, v14, v15, v16, v17, v18, v19, v20, v21, v22, v23, v24, v25, v26, v27, v28, v29, v30, v31, v32, v33, v34, v35, v36, v37, v38, v39, v40, v41, .int (nI r), .int (nI w), .int z_8, v45, v46, v47, v48, v49, v50, v51])), (a0, .inl (cI, 3, .inl (fun j => nI (C j)))), (a1, .inl (cI, 9, .inl (fun j => nI (Mn j)))), (a12, .inl (cI, 522000, .inl sf))] := hD
                      refine lv_iconst (v := 1) hx hb dX9_isRace_180 (by decide) ?_
                      have hP := hP.sub (ws' := [(h0, .inr (9, [.ref a0, .ref a1, .ref a2, .ref a3, v4, v5, v6, v7, v8, v9, v10, v11, .ref a12, v13, v14, v15, v16, v17, v18, v19, v20, v21, v22, v23, v24, v25, v26, v27, v28, v29, v30, v31, v32, v33, v34, v35, v36, v37, v38, v39, v40, v41, .int (nI r), .int (nI w), .int z_8, v45, v46, v47, v48, v49, v50, v51])), (a0, .inl (cI, 3, .inl (fun j => nI (C j)))), (a1, .inl (cI, 9, .inl (fun j => nI (Mn j)))), (a2, .inl (cI, 108, .inl kd)), (a3, .inl (cI, 108, .inl cl)), (a12, .inl (cI, 522000, .inl sf))]) [2, 3, 4, 0, 1, 5] rfl
                      have hD := hD.sub (ws' := [(h0, .inr (9, [.ref a0, .ref a1, .ref a2, .ref a3, v4, v5, v6, v7, v8, v9, v10, v11, .ref a12, v13, v14, v15, v16, v17, v18, v19, v20, v21, v22, v23, v24, v25, v26, v27, v28, v29, v30, v31, v32, v33, v34, v35, v36, v37, v38, v39, v40, v41, .int (nI r), .int (nI w), .int z_8, v45, v46, v47, v48, v49, v50, v51])), (a0, .inl (cI, 3, .inl (fun j => nI (C j)))), (a1, .inl (cI, 9, .inl (fun j => nI (Mn j)))), (a2, .inl (cI, 108, .inl kd)), (a3, .inl (cI, 108, .inl cl)), (a12, .inl (cI, 522000, .inl sf))]) [2, 3, 4, 0, 1, 5] (by decide) rfl
                      exact gx_zret (w' := [(h0, .inr (9, [.ref a0, .ref a1, .ref a2, .ref a3, v4, v5, v6, v7, v8, v9, v10, v11, .ref a12, v13, v14, v15, v16, v17, v18, v19, v20, v21, v22, v23, v24, v25, v26, v27, v28, v29, v30, v31, v32, v33, v34, v35, v36, v37, v38, v39, v40, v41, .int (nI r), .int (nI w), .int z_8, v45, v46, v47, v48, v49, v50, v51])), (a0, .inl (cI, 3, .inl (fun j => nI (C j)))), (a1, .inl (cI, 9, .inl (fun j => nI (Mn j)))), (a2, .inl (cI, 108, .inl kd)), (a3, .inl (cI, 108, .inl cl)), (a12, .inl (cI, 522000, .inl sf))]) hx hb hr hlk hK hP hD hS (Nat.le_of_ble_eq_true rfl) (Nat.le_of_ble_eq_true rfl) dX9_isRace_181 rfl ⟨1, (nI r), (nI w), z_8, (by first | exact Or.inl rfl | exact Or.inr rfl), rfl, rfl⟩
                    · refine lv_aload_n hx hb dX9_isRace_140 rfl (lv_at hl 6 rfl) ?_
                      refine va_get (D := D) (ci := 9) (v := .ref a2) (C := RX9) (T := TX9) (N := 52) hx hb hts (fun _ h => List.mem_cons_of_mem _ (List.mem_append_left _ (List.mem_append_right _ h))) hown hK hP 2 rfl rfl 2 (by decide) (hts (.fieldLink RX9 16 "LitmusHallModel" "kind" "[I") (by decide +kernel)) (fun _ h9 => h9) rfl dX9_isRace_141 ?_
                      refine lv_iload hx hb dX9_isRace_144 (lv_at hl 0 rfl) ?_
                      refine gy_ild (i := q9) hx hb hK hP 0 rfl (by omega) (by omega) dX9_isRace_146 ?_
                      refine gx_gen (fun z_25 => ?_)
                      refine lv_iconst (v := 5) hx hb dX9_isRace_147 (by decide) ?_
                      refine lv_icmp_lt (tgt := 182) hx hb dX9_isRace_148 (by decide) (fun c_26 => ?_) (fun c_26 => ?_)
                      · refine lv_iinc (v := nI (w + 1)) (lv' := [(6, .int (nI (w + 1))), (7, .int (nI q9)), (5, .int 1), (4, .int z_8), (3, .int (nI p9)), (2, .int (nI r)), (0, .ref h0), (1, .int (nI n))]) hx hb dX9_isRace_182 hl (k := 1) rfl (nI_add w 1) (by decide) rfl (fun ls hl => ?_)
                        refine lv_goto (tgt := 82) hx hb dX9_isRace_185 (by decide) ?_
                        exact ih82 (w + 1) H locs ls ⟨(by show (w + 1) ≤ 3; omega), hP, hD, hS, lv_sub hl [0, 2, 3, 4, 5, 6, 7] rfl⟩ (by show 3 - (w + 1) < 3 - w; omega)
                      · refine lv_aload_n hx hb dX9_isRace_151 rfl (lv_at hl 6 rfl) ?_
                        refine va_get (D := D) (ci := 9) (v := .ref a2) (C := RX9) (T := TX9) (N := 52) hx hb hts (fun _ h => List.mem_cons_of_mem _ (List.mem_append_left _ (List.mem_append_right _ h))) hown hK hP 2 rfl rfl 2 (by decide) (hts (.fieldLink RX9 16 "LitmusHallModel" "kind" "[I") (by decide +kernel)) (fun _ h9 => h9) rfl dX9_isRace_152 ?_
                        refine lv_iload hx hb dX9_isRace_155 (lv_at hl 0 rfl) ?_
                        refine gy_ild (i := q9) hx hb hK hP 0 rfl (by omega) (by omega) dX9_isRace_157 ?_
                        refine gx_gen (fun z_27 => ?_)
                        refine lv_bipush (v := 7) hx hb dX9_isRace_158 (by decide) ?_
                        refine lv_icmp_gt (tgt := 182) hx hb dX9_isRace_160 (by decide) (fun c_28 => ?_) (fun c_28 => ?_)
                        · refine lv_iinc (v := nI (w + 1)) (lv' := [(6, .int (nI (w + 1))), (7, .int (nI q9)), (5, .int 1), (4, .int z_8), (3, .int (nI p9)), (2, .int (nI r)), (0, .ref h0), (1, .int (nI n))]) hx hb dX9_isRace_182 hl (k := 1) rfl (nI_add w 1) (by decide) rfl (fun ls hl => ?_)
                          refine lv_goto (tgt := 82) hx hb dX9_isRace_185 (by decide) ?_
                          exact ih82 (w + 1) H locs ls ⟨(by show (w + 1) ≤ 3; omega), hP, hD, hS, lv_sub hl [0, 2, 3, 4, 5, 6, 7] rfl⟩ (by show 3 - (w + 1) < 3 - w; omega)
                        · refine lv_aload_n hx hb dX9_isRace_163 rfl (lv_at hl 6 rfl) ?_
                          refine lv_iload_n hx hb dX9_isRace_164 rfl (lv_at hl 5 rfl) ?_
                          refine va_put (D := D) (ci := 9) (v := .int (nI r)) (ty := .int) (C := RX9) (T := TX9) (N := 52) hx hb hts (fun _ h => List.mem_cons_of_mem _ (List.mem_append_left _ (List.mem_append_right _ h))) tyX9 tyX9_ok nmX9 hown hK hP hD hS 2 rfl rfl 42 (by decide) (hts (.fieldLink RX9 362 "LitmusHallModel" "raceR" "I") (by decide +kernel)) (fun _ h9 => h9) rfl (by decide +kernel) rfl rfl (Nat.le_of_ble_eq_true rfl) dX9_isRace_165 (fun H locs hP hD hS => ?_)
                          have hP : va_P D vwCl [(a2, .inl (cI, 108, .inl kd)), (a3, .inl (cI, 108, .inl cl)), (h0, .inr (9, [.ref a0, .ref a1, .ref a2, .ref a3, v4, v5, v6, v7, v8, v9, v10, v11, .ref a12, v13, v14, v15, v16, v17, v18, v19, v20, v21, v22, v23, v24, v25, v26, v27, v28, v29, v30, v31, v32, v33, v34, v35, v36, v37, v38, v39, v40, v41, .int (nI r), .int rW, .int rX, v45, v46, v47, v48, v49, v50, v51])), (a0, .inl (cI, 3, .inl (fun j => nI (C j)))), (a1, .inl (cI, 9, .inl (fun j => nI (Mn j)))), (a12, .inl (cI, 522000, .inl sf))] H := hP
                          have hD : va_D A [(a2, .inl (cI, 108, .inl kd)), (a3, .inl (cI, 108, .inl cl)), (h0, .inr (9, [.ref a0, .ref a1, .ref a2, .ref a3, v4, v5, v6, v7, v8, v9, v10, v11, .ref a12, v13, v14, v15, v16, v17, v18, v19, v20, v21, v22, v23, v24, v25, v26, v27, v28, v29, v30, v31, v32, v33, v34, v35, v36, v37, v38, v39, v40, v41, .int (nI r), .int rW, .int rX, v45, v46, v47, v48, v49, v50, v51])), (a0, .inl (cI, 3, .inl (fun j => nI (C j)))), (a1, .inl (cI, 9, .inl (fun j => nI (Mn j)))), (a12, .inl (cI, 522000, .inl sf))] := hD
                          refine lv_aload_n hx hb dX9_isRace_168 rfl (lv_at hl 6 rfl) ?_
                          refine lv_iload hx hb dX9_isRace_169 (lv_at hl 1 rfl) ?_
                          refine va_put (D := D) (ci := 9) (v := .int (nI w)) (ty := .int) (C := RX9) (T := TX9) (N := 52) hx hb hts (fun _ h => List.mem_cons_of_mem _ (List.mem_append_left _ (List.mem_append_right _ h))) tyX9 tyX9_ok nmX9 hown hK hP hD hS 2 rfl rfl 43 (by decide) (hts (.fieldLink RX9 365 "LitmusHallModel" "raceW" "I") (by decide +kernel)) (fun _ h9 => h9) rfl (by decide +kernel) rfl rfl (Nat.le_of_ble_eq_true rfl) dX9_isRace_171 (fun H locs hP hD hS => ?_)
                          have hP : va_P D vwCl [(a2, .inl (cI, 108, .inl kd)), (a3, .inl (cI, 108, .inl cl)), (h0, .inr (9, [.ref a0, .ref a1, .ref a2, .ref a3, v4, v5, v6, v7, v8, v9, v10, v11, .ref a12, v13, v14, v15, v16, v17, v18, v19, v20, v21, v22, v23, v24, v25, v26, v27, v28, v29, v30, v31, v32, v33, v34, v35, v36, v37, v38, v39, v40, v41, .int (nI r), .int (nI w), .int rX, v45, v46, v47, v48, v49, v50, v51])), (a0, .inl (cI, 3, .inl (fun j => nI (C j)))), (a1, .inl (cI, 9, .inl (fun j => nI (Mn j)))), (a12, .inl (cI, 522000, .inl sf))] H := hP
                          have hD : va_D A [(a2, .inl (cI, 108, .inl kd)), (a3, .inl (cI, 108, .inl cl)), (h0, .inr (9, [.ref a0, .ref a1, .ref a2, .ref a3, v4, v5, v6, v7, v8, v9, v10, v11, .ref a12, v13, v14, v15, v16, v17, v18, v19, v20, v21, v22, v23, v24, v25, v26, v27, v28, v29, v30, v31, v32, v33, v34, v35, v36, v37, v38, v39, v40, v41, .int (nI r), .int (nI w), .int rX, v45, v46, v47, v48, v49, v50, v51])), (a0, .inl (cI, 3, .inl (fun j => nI (C j)))), (a1, .inl (cI, 9, .inl (fun j => nI (Mn j)))), (a12, .inl (cI, 522000, .inl sf))] := hD
                          refine lv_aload_n hx hb dX9_isRace_174 rfl (lv_at hl 6 rfl) ?_
                          refine lv_iload hx hb dX9_isRace_175 (lv_at hl 3 rfl) ?_
                          refine va_put (D := D) (ci := 9) (v := .int z_8) (ty := .int) (C := RX9) (T := TX9) (N := 52) hx hb hts (fun _ h => List.mem_cons_of_mem _ (List.mem_append_left _ (List.mem_append_right _ h))) tyX9 tyX9_ok nmX9 hown hK hP hD hS 2 rfl rfl 44 (by decide) (hts (.fieldLink RX9 368 "LitmusHallModel" "raceX" "I") (by decide +kernel)) (fun _ h9 => h9) rfl (by decide +kernel) rfl rfl (Nat.le_of_ble_eq_true rfl) dX9_isRace_177 (fun H locs hP hD hS => ?_)
                          have hP : va_P D vwCl [(a2, .inl (cI, 108, .inl kd)), (a3, .inl (cI, 108, .inl cl)), (h0, .inr (9, [.ref a0, .ref a1, .ref a2, .ref a3, v4, v5, v6, v7, v8, v9, v10, v11, .ref a12, v13, v14, v15, v16, v17, v18, v19, v20, v21, v22, v23, v24, v25, v26, v27, v28, v29, v30, v31, v32, v33, v34, v35, v36, v37, v38, v39, v40, v41, .int (nI r), .int (nI w), .int z_8, v45, v46, v47, v48, v49, v50, v51])), (a0, .inl (cI, 3, .inl (fun j => nI (C j)))), (a1, .inl (cI, 9, .inl (fun j => nI (Mn j)))), (a12, .inl (cI, 522000, .inl sf))] H := hP
                          have hD : va_D A [(a2, .inl (cI, 108, .inl kd)), (a3, .inl (cI, 108, .inl cl)), (h0, .inr (9, [.ref a0, .ref a1, .ref a2, .ref a3, v4, v5, v6, v7, v8, v9, v10, v11, .ref a12, v13, v14, v15, v16, v17, v18, v19, v20, v21, v22, v23, v24, v25, v26, v27, v28, v29, v30, v31, v32, v33, v34, v35, v36, v37, v38, v39, v40, v41, .int (nI r), .int (nI w), .int z_8, v45, v46, v47, v48, v49, v50, v51])), (a0, .inl (cI, 3, .inl (fun j => nI (C j)))), (a1, .inl (cI, 9, .inl (fun j => nI (Mn j)))), (a12, .inl (cI, 522000, .inl sf))] := hD
                          refine lv_iconst (v := 1) hx hb dX9_isRace_180 (by decide) ?_
                          have hP := hP.sub (ws' := [(h0, .inr (9, [.ref a0, .ref a1, .ref a2, .ref a3, v4, v5, v6, v7, v8, v9, v10, v11, .ref a12, v13, v14, v15, v16, v17, v18, v19, v20, v21, v22, v23, v24, v25, v26, v27, v28, v29, v30, v31, v32, v33, v34, v35, v36, v37, v38, v39, v40, v41, .int (nI r), .int (nI w), .int z_8, v45, v46, v47, v48, v49, v50, v51])), (a0, .inl (cI, 3, .inl (fun j => nI (C j)))), (a1, .inl (cI, 9, .inl (fun j => nI (Mn j)))), (a2, .inl (cI, 108, .inl kd)), (a3, .inl (cI, 108, .inl cl)), (a12, .inl (cI, 522000, .inl sf))]) [2, 3, 4, 0, 1, 5] rfl
                          have hD := hD.sub (ws' := [(h0, .inr (9, [.ref a0, .ref a1, .ref a2, .ref a3, v4, v5, v6, v7, v8, v9, v10, v11, .ref a12, v13, v14, v15, v16, v17, v18, v19, v20, v21, v22, v23, v24, v25, v26, v27, v28, v29, v30, v31, v32, v33, v34, v35, v36, v37, v38, v39, v40, v41, .int (nI r), .int (nI w), .int z_8, v45, v46, v47, v48, v49, v50, v51])), (a0, .inl (cI, 3, .inl (fun j => nI (C j)))), (a1, .inl (cI, 9, .inl (fun j => nI (Mn j)))), (a2, .inl (cI, 108, .inl kd)), (a3, .inl (cI, 108, .inl cl)), (a12, .inl (cI, 522000, .inl sf))]) [2, 3, 4, 0, 1, 5] (by decide) rfl
                          exact gx_zret (w' := [(h0, .inr (9, [.ref a0, .ref a1, .ref a2, .ref a3, v4, v5, v6, v7, v8, v9, v10, v11, .ref a12, v13, v14, v15, v16, v17, v18, v19, v20, v21, v22, v23, v24, v25, v26, v27, v28, v29, v30, v31, v32, v33, v34, v35, v36, v37, v38, v39, v40, v41, .int (nI r), .int (nI w), .int z_8, v45, v46, v47, v48, v49, v50, v51])), (a0, .inl (cI, 3, .inl (fun j => nI (C j)))), (a1, .inl (cI, 9, .inl (fun j => nI (Mn j)))), (a2, .inl (cI, 108, .inl kd)), (a3, .inl (cI, 108, .inl cl)), (a12, .inl (cI, 522000, .inl sf))]) hx hb hr hlk hK hP hD hS (Nat.le_of_ble_eq_true rfl) (Nat.le_of_ble_eq_true rfl) dX9_isRace_181 rfl ⟨1, (nI r), (nI w), z_8, (by first | exact Or.inl rfl | exact Or.inr rfl), rfl, rfl⟩
              · refine lv_iconst (v := (-1)) hx hb dX9_isRace_99 (by decide) ?_
                refine lv_goto (tgt := 110) hx hb dX9_isRace_100 (by decide) ?_
                refine lv_istore (lv' := [(7, .int (-1)), (6, .int (nI w)), (5, .int 1), (4, .int z_8), (3, .int (nI p9)), (2, .int (nI r)), (0, .ref h0), (1, .int (nI n))]) hx hb dX9_isRace_110 hl (by decide) rfl (fun ls hl => ?_)
                refine lv_iload hx hb dX9_isRace_112 (lv_at hl 0 rfl) ?_
                refine lv_if_lt (tgt := 182) hx hb dX9_isRace_114 (by decide) (fun _ => ?_) (fun c9 => absurd (by decide) c9)
                refine lv_iinc (v := nI (w + 1)) (lv' := [(6, .int (nI (w + 1))), (7, .int (-1)), (5, .int 1), (4, .int z_8), (3, .int (nI p9)), (2, .int (nI r)), (0, .ref h0), (1, .int (nI n))]) hx hb dX9_isRace_182 hl (k := 1) rfl (nI_add w 1) (by decide) rfl (fun ls hl => ?_)
                refine lv_goto (tgt := 82) hx hb dX9_isRace_185 (by decide) ?_
                exact ih82 (w + 1) H locs ls ⟨(by show (w + 1) ≤ 3; omega), hP, hD, hS, lv_sub hl [0, 2, 3, 4, 5, 6, 7] rfl⟩ (by show 3 - (w + 1) < 3 - w; omega)
