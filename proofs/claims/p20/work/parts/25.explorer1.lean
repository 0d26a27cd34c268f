theorem dJ7_copyOf_59c91_0 : decode cJ7_copyOf_59c91 0 = .ok (.iload_n 1, 1) := by decide +kernel
theorem dJ7_copyOf_59c91_1 : decode cJ7_copyOf_59c91 1 = .ok (.aload_n 0, 1) := by decide +kernel
theorem dJ7_copyOf_59c91_14 : decode cJ7_copyOf_59c91 14 = .ok (.iload_n 1, 1) := by decide +kernel
theorem dJ7_copyOf_59c91_15 : decode cJ7_copyOf_59c91 15 = .ok (.newarray .int, 2) := by decide +kernel
theorem dJ7_copyOf_59c91_17 : decode cJ7_copyOf_59c91 17 = .ok (.astore_n 2, 1) := by decide +kernel
theorem dJ7_copyOf_59c91_18 : decode cJ7_copyOf_59c91 18 = .ok (.aload_n 0, 1) := by decide +kernel
theorem dJ7_copyOf_59c91_19 : decode cJ7_copyOf_59c91 19 = .ok (.iconst 0, 1) := by decide +kernel
theorem dJ7_copyOf_59c91_2 : decode cJ7_copyOf_59c91 2 = .ok (.arraylength, 1) := by decide +kernel
theorem dJ7_copyOf_59c91_20 : decode cJ7_copyOf_59c91 20 = .ok (.aload_n 2, 1) := by decide +kernel
theorem dJ7_copyOf_59c91_21 : decode cJ7_copyOf_59c91 21 = .ok (.iconst 0, 1) := by decide +kernel
theorem dJ7_copyOf_59c91_22 : decode cJ7_copyOf_59c91 22 = .ok (.aload_n 0, 1) := by decide +kernel
theorem dJ7_copyOf_59c91_23 : decode cJ7_copyOf_59c91 23 = .ok (.arraylength, 1) := by decide +kernel
theorem dJ7_copyOf_59c91_24 : decode cJ7_copyOf_59c91 24 = .ok (.iload_n 1, 1) := by decide +kernel
theorem dJ7_copyOf_59c91_25 : decode cJ7_copyOf_59c91 25 = .ok (.invokestatic 304, 3) := by decide +kernel
theorem dJ7_copyOf_59c91_28 : decode cJ7_copyOf_59c91 28 = .ok (.invokestatic 150, 3) := by decide +kernel
theorem dJ7_copyOf_59c91_3 : decode cJ7_copyOf_59c91 3 = .ok (.if_icmp .ne 11, 3) := by decide +kernel
theorem dJ7_copyOf_59c91_31 : decode cJ7_copyOf_59c91 31 = .ok (.aload_n 2, 1) := by decide +kernel
theorem dJ7_copyOf_59c91_32 : decode cJ7_copyOf_59c91 32 = .ok (.areturn, 1) := by decide +kernel
theorem dX1_fetch_0 : decode cX1_fetch 0 = .ok (.aload_n 0, 1) := by decide +kernel
theorem dX1_fetch_1 : decode cX1_fetch 1 = .ok (.getfield 32, 3) := by decide +kernel
theorem dX1_fetch_10 : decode cX1_fetch 10 = .ok (.aload_n 0, 1) := by decide +kernel
theorem dX1_fetch_11 : decode cX1_fetch 11 = .ok (.getfield 21, 3) := by decide +kernel
theorem dX1_fetch_14 : decode cX1_fetch 14 = .ok (.getfield 61, 3) := by decide +kernel
theorem dX1_fetch_17 : decode cX1_fetch 17 = .ok (.iconst 0, 1) := by decide +kernel
theorem dX1_fetch_18 : decode cX1_fetch 18 = .ok (.aload_n 0, 1) := by decide +kernel
theorem dX1_fetch_19 : decode cX1_fetch 19 = .ok (.getfield 28, 3) := by decide +kernel
theorem dX1_fetch_22 : decode cX1_fetch 22 = .ok (.invokestatic 83, 3) := by decide +kernel
theorem dX1_fetch_25 : decode cX1_fetch 25 = .ok (.return_, 1) := by decide +kernel
theorem dX1_fetch_4 : decode cX1_fetch 4 = .ok (.iload_n 1, 1) := by decide +kernel
theorem dX1_fetch_5 : decode cX1_fetch 5 = .ok (.aload_n 0, 1) := by decide +kernel
theorem dX1_fetch_6 : decode cX1_fetch 6 = .ok (.getfield 28, 3) := by decide +kernel
theorem dX1_fetch_9 : decode cX1_fetch 9 = .ok (.imul, 1) := by decide +kernel
theorem dX1_hashOf_0 : decode cX1_hashOf 0 = .ok (.iconst 0, 1) := by decide +kernel
theorem dX1_hashOf_1 : decode cX1_hashOf 1 = .ok (.istore_n 2, 1) := by decide +kernel
theorem dX1_hashOf_12 : decode cX1_hashOf 12 = .ok (.iload_n 2, 1) := by decide +kernel
theorem dX1_hashOf_13 : decode cX1_hashOf 13 = .ok (.bipush 31, 2) := by decide +kernel
theorem dX1_hashOf_15 : decode cX1_hashOf 15 = .ok (.imul, 1) := by decide +kernel
theorem dX1_hashOf_16 : decode cX1_hashOf 16 = .ok (.aload_n 1, 1) := by decide +kernel
theorem dX1_hashOf_17 : decode cX1_hashOf 17 = .ok (.iload_n 3, 1) := by decide +kernel
theorem dX1_hashOf_18 : decode cX1_hashOf 18 = .ok (.iaload, 1) := by decide +kernel
theorem dX1_hashOf_19 : decode cX1_hashOf 19 = .ok (.iadd, 1) := by decide +kernel
theorem dX1_hashOf_2 : decode cX1_hashOf 2 = .ok (.iconst 0, 1) := by decide +kernel
theorem dX1_hashOf_20 : decode cX1_hashOf 20 = .ok (.istore_n 2, 1) := by decide +kernel
theorem dX1_hashOf_21 : decode cX1_hashOf 21 = .ok (.iinc 3 1, 3) := by decide +kernel
theorem dX1_hashOf_24 : decode cX1_hashOf 24 = .ok (.goto (-20), 3) := by decide +kernel
theorem dX1_hashOf_27 : decode cX1_hashOf 27 = .ok (.iload_n 2, 1) := by decide +kernel
theorem dX1_hashOf_28 : decode cX1_hashOf 28 = .ok (.iload_n 2, 1) := by decide +kernel
theorem dX1_hashOf_29 : decode cX1_hashOf 29 = .ok (.bipush 16, 2) := by decide +kernel
theorem dX1_hashOf_3 : decode cX1_hashOf 3 = .ok (.istore_n 3, 1) := by decide +kernel
theorem dX1_hashOf_31 : decode cX1_hashOf 31 = .ok (.iushr, 1) := by decide +kernel
theorem dX1_hashOf_32 : decode cX1_hashOf 32 = .ok (.ixor, 1) := by decide +kernel
theorem dX1_hashOf_33 : decode cX1_hashOf 33 = .ok (.ldc 105, 2) := by decide +kernel
theorem dX1_hashOf_35 : decode cX1_hashOf 35 = .ok (.imul, 1) := by decide +kernel
theorem dX1_hashOf_36 : decode cX1_hashOf 36 = .ok (.istore_n 2, 1) := by decide +kernel
theorem dX1_hashOf_37 : decode cX1_hashOf 37 = .ok (.iload_n 2, 1) := by decide +kernel
theorem dX1_hashOf_38 : decode cX1_hashOf 38 = .ok (.iload_n 2, 1) := by decide +kernel
theorem dX1_hashOf_39 : decode cX1_hashOf 39 = .ok (.bipush 13, 2) := by decide +kernel
theorem dX1_hashOf_4 : decode cX1_hashOf 4 = .ok (.iload_n 3, 1) := by decide +kernel
theorem dX1_hashOf_41 : decode cX1_hashOf 41 = .ok (.iushr, 1) := by decide +kernel
theorem dX1_hashOf_42 : decode cX1_hashOf 42 = .ok (.ixor, 1) := by decide +kernel
theorem dX1_hashOf_43 : decode cX1_hashOf 43 = .ok (.ireturn, 1) := by decide +kernel
theorem dX1_hashOf_5 : decode cX1_hashOf 5 = .ok (.aload_n 0, 1) := by decide +kernel
theorem dX1_hashOf_6 : decode cX1_hashOf 6 = .ok (.getfield 28, 3) := by decide +kernel
theorem dX1_hashOf_9 : decode cX1_hashOf 9 = .ok (.if_icmp .ge 18, 3) := by decide +kernel
theorem dX1_intOf_0 : decode cX1_intOf 0 = .ok (.aload_n 0, 1) := by decide +kernel
theorem dX1_intOf_1 : decode cX1_intOf 1 = .ok (.getfield 32, 3) := by decide +kernel
theorem dX1_intOf_10 : decode cX1_intOf 10 = .ok (.iload_n 2, 1) := by decide +kernel
theorem dX1_intOf_11 : decode cX1_intOf 11 = .ok (.iadd, 1) := by decide +kernel
theorem dX1_intOf_12 : decode cX1_intOf 12 = .ok (.iaload, 1) := by decide +kernel
theorem dX1_intOf_13 : decode cX1_intOf 13 = .ok (.ireturn, 1) := by decide +kernel
theorem dX1_intOf_4 : decode cX1_intOf 4 = .ok (.iload_n 1, 1) := by decide +kernel
theorem dX1_intOf_5 : decode cX1_intOf 5 = .ok (.aload_n 0, 1) := by decide +kernel
theorem dX1_intOf_6 : decode cX1_intOf 6 = .ok (.getfield 28, 3) := by decide +kernel
theorem dX1_intOf_9 : decode cX1_intOf 9 = .ok (.imul, 1) := by decide +kernel
theorem dX1_isBefore_0 : decode cX1_isBefore 0 = .ok (.iconst 0, 1) := by decide +kernel
theorem dX1_isBefore_1 : decode cX1_isBefore 1 = .ok (.istore_n 3, 1) := by decide +kernel
theorem dX1_isBefore_12 : decode cX1_isBefore 12 = .ok (.iload_n 1, 1) := by decide +kernel
theorem dX1_isBefore_13 : decode cX1_isBefore 13 = .ok (.aload_n 0, 1) := by decide +kernel
theorem dX1_isBefore_14 : decode cX1_isBefore 14 = .ok (.getfield 28, 3) := by decide +kernel
theorem dX1_isBefore_17 : decode cX1_isBefore 17 = .ok (.imul, 1) := by decide +kernel
theorem dX1_isBefore_18 : decode cX1_isBefore 18 = .ok (.iload_n 3, 1) := by decide +kernel
theorem dX1_isBefore_19 : decode cX1_isBefore 19 = .ok (.iadd, 1) := by decide +kernel
theorem dX1_isBefore_2 : decode cX1_isBefore 2 = .ok (.iload_n 3, 1) := by decide +kernel
theorem dX1_isBefore_20 : decode cX1_isBefore 20 = .ok (.iaload, 1) := by decide +kernel
theorem dX1_isBefore_21 : decode cX1_isBefore 21 = .ok (.istore 4, 2) := by decide +kernel
theorem dX1_isBefore_23 : decode cX1_isBefore 23 = .ok (.aload_n 0, 1) := by decide +kernel
theorem dX1_isBefore_24 : decode cX1_isBefore 24 = .ok (.getfield 32, 3) := by decide +kernel
theorem dX1_isBefore_27 : decode cX1_isBefore 27 = .ok (.iload_n 2, 1) := by decide +kernel
theorem dX1_isBefore_28 : decode cX1_isBefore 28 = .ok (.aload_n 0, 1) := by decide +kernel
theorem dX1_isBefore_29 : decode cX1_isBefore 29 = .ok (.getfield 28, 3) := by decide +kernel
theorem dX1_isBefore_3 : decode cX1_isBefore 3 = .ok (.bipush 13, 2) := by decide +kernel
theorem dX1_isBefore_32 : decode cX1_isBefore 32 = .ok (.imul, 1) := by decide +kernel
theorem dX1_isBefore_33 : decode cX1_isBefore 33 = .ok (.iload_n 3, 1) := by decide +kernel
theorem dX1_isBefore_34 : decode cX1_isBefore 34 = .ok (.iadd, 1) := by decide +kernel
theorem dX1_isBefore_35 : decode cX1_isBefore 35 = .ok (.iaload, 1) := by decide +kernel
theorem dX1_isBefore_36 : decode cX1_isBefore 36 = .ok (.istore 5, 2) := by decide +kernel
theorem dX1_isBefore_38 : decode cX1_isBefore 38 = .ok (.iload 4, 2) := by decide +kernel
theorem dX1_isBefore_40 : decode cX1_isBefore 40 = .ok (.iload 5, 2) := by decide +kernel
theorem dX1_isBefore_42 : decode cX1_isBefore 42 = .ok (.if_icmp .eq 16, 3) := by decide +kernel
theorem dX1_isBefore_45 : decode cX1_isBefore 45 = .ok (.iload 4, 2) := by decide +kernel
theorem dX1_isBefore_47 : decode cX1_isBefore 47 = .ok (.iload 5, 2) := by decide +kernel
theorem dX1_isBefore_49 : decode cX1_isBefore 49 = .ok (.if_icmp .ge 7, 3) := by decide +kernel
theorem dX1_isBefore_5 : decode cX1_isBefore 5 = .ok (.if_icmp .ge 59, 3) := by decide +kernel
theorem dX1_isBefore_52 : decode cX1_isBefore 52 = .ok (.iconst 1, 1) := by decide +kernel
theorem dX1_isBefore_53 : decode cX1_isBefore 53 = .ok (.goto 4, 3) := by decide +kernel
theorem dX1_isBefore_56 : decode cX1_isBefore 56 = .ok (.iconst 0, 1) := by decide +kernel
theorem dX1_isBefore_57 : decode cX1_isBefore 57 = .ok (.ireturn, 1) := by decide +kernel
theorem dX1_isBefore_58 : decode cX1_isBefore 58 = .ok (.iinc 3 1, 3) := by decide +kernel
theorem dX1_isBefore_61 : decode cX1_isBefore 61 = .ok (.goto (-59), 3) := by decide +kernel
theorem dX1_isBefore_64 : decode cX1_isBefore 64 = .ok (.iconst 0, 1) := by decide +kernel
theorem dX1_isBefore_65 : decode cX1_isBefore 65 = .ok (.ireturn, 1) := by decide +kernel
theorem dX1_isBefore_8 : decode cX1_isBefore 8 = .ok (.aload_n 0, 1) := by decide +kernel
theorem dX1_isBefore_9 : decode cX1_isBefore 9 = .ok (.getfield 32, 3) := by decide +kernel
theorem dX1_isSame_0 : decode cX1_isSame 0 = .ok (.iload_n 1, 1) := by decide +kernel
theorem dX1_isSame_1 : decode cX1_isSame 1 = .ok (.aload_n 0, 1) := by decide +kernel
theorem dX1_isSame_10 : decode cX1_isSame 10 = .ok (.iload 4, 2) := by decide +kernel
theorem dX1_isSame_12 : decode cX1_isSame 12 = .ok (.aload_n 0, 1) := by decide +kernel
theorem dX1_isSame_13 : decode cX1_isSame 13 = .ok (.getfield 28, 3) := by decide +kernel
theorem dX1_isSame_16 : decode cX1_isSame 16 = .ok (.if_icmp .ge 27, 3) := by decide +kernel
theorem dX1_isSame_19 : decode cX1_isSame 19 = .ok (.aload_n 0, 1) := by decide +kernel
theorem dX1_isSame_2 : decode cX1_isSame 2 = .ok (.getfield 28, 3) := by decide +kernel
theorem dX1_isSame_20 : decode cX1_isSame 20 = .ok (.getfield 32, 3) := by decide +kernel
theorem dX1_isSame_23 : decode cX1_isSame 23 = .ok (.iload_n 3, 1) := by decide +kernel
theorem dX1_isSame_24 : decode cX1_isSame 24 = .ok (.iload 4, 2) := by decide +kernel
theorem dX1_isSame_26 : decode cX1_isSame 26 = .ok (.iadd, 1) := by decide +kernel
theorem dX1_isSame_27 : decode cX1_isSame 27 = .ok (.iaload, 1) := by decide +kernel
theorem dX1_isSame_28 : decode cX1_isSame 28 = .ok (.aload_n 2, 1) := by decide +kernel
theorem dX1_isSame_29 : decode cX1_isSame 29 = .ok (.iload 4, 2) := by decide +kernel
theorem dX1_isSame_31 : decode cX1_isSame 31 = .ok (.iaload, 1) := by decide +kernel
theorem dX1_isSame_32 : decode cX1_isSame 32 = .ok (.if_icmp .eq 5, 3) := by decide +kernel
theorem dX1_isSame_35 : decode cX1_isSame 35 = .ok (.iconst 0, 1) := by decide +kernel
theorem dX1_isSame_36 : decode cX1_isSame 36 = .ok (.ireturn, 1) := by decide +kernel
theorem dX1_isSame_37 : decode cX1_isSame 37 = .ok (.iinc 4 1, 3) := by decide +kernel
theorem dX1_isSame_40 : decode cX1_isSame 40 = .ok (.goto (-30), 3) := by decide +kernel
theorem dX1_isSame_43 : decode cX1_isSame 43 = .ok (.iconst 1, 1) := by decide +kernel
theorem dX1_isSame_44 : decode cX1_isSame 44 = .ok (.ireturn, 1) := by decide +kernel
theorem dX1_isSame_5 : decode cX1_isSame 5 = .ok (.imul, 1) := by decide +kernel
theorem dX1_isSame_6 : decode cX1_isSame 6 = .ok (.istore_n 3, 1) := by decide +kernel
theorem dX1_isSame_7 : decode cX1_isSame 7 = .ok (.iconst 0, 1) := by decide +kernel
theorem dX1_isSame_8 : decode cX1_isSame 8 = .ok (.istore 4, 2) := by decide +kernel
def wsP_c_copyOf : List Cond := .code yJ7_copyOf_59c91 cJ7_copyOf_59c91 3 (some (.array .int)) :: (([.arrayClass .int, .methodLink RJ7 304 Lib.Math.min.name, .static Lib.Math.min.name, .initialized "java/lang/Math", .code Lib.Math.min.name Lib.Math.min.code 2 (some .int), .methodLink RJ7 150 arraycopyName, .native arraycopyName, .static arraycopyName, .initialized "java/lang/System"]) ++ [])
theorem gW_c_copyOf : wsP_c_copyOf.all goodWord = true := by unfold wsP_c_copyOf; exact gw_mk (by decide +kernel) rfl
abbrev po_c_copyOf (cI cB cZ : ClassId) (a : Nat) (n : Nat) (f : Nat → Int32) (n2 : Nat) : Nat → va_W → Nat → Nat → Prop := (fun r9 w9 k9 n9 => ∃ q : Nat, ∃ g : Nat → Int32, (∀ j, j < n → g j = f j) ∧ k9 = (1) ∧ n9 = (n2) ∧ r9 = q ∧ w9 = [(a, .inl (cI, n, .inl f)), (q, .inl (cI, n2, .inl g))])
set_option maxHeartbeats 4000000 in
set_option maxRecDepth 100000 in
theorem c_copyOf (l : Launch) (D : va_G) (cI cB cZ : ClassId) (a : Nat) (n : Nat) (f : Nat → Int32) (n2 : Nat) (h1 : n < n2) (h2 : n2 ≤ 102000) : gMr2 l yJ7_copyOf_59c91 wsP_c_copyOf ({ frames := 1, cells := 1, slots := 102000, locals := 40 }) D cI cB cZ [] [.ref a, .int (nI n2)] [(a, .inl (cI, n, .inl f))] (po_c_copyOf cI cB cZ a n f n2) := by
  refine gMr2.of (cc := cJ7_copyOf_59c91) (maxL := 3) (ret := (some (.array .int))) (by decide) rfl (Nat.le_of_ble_eq_true rfl) (fun p e s m below meth c A ls hx hb hr hlk hml hts hown hin hA hP hK hD hS hN hl => ?_)
  have hown : s.vm.findClass RJ7 = some m.cls := hown
  have hl : lv_has ls 3 [(0, .ref a), (1, .int (nI n2))] := hl
  refine W.widen (k := 0) (n := 0) (Nat.le_refl _) (Nat.le_refl _) ?_
  refine lv_iload_n hx hb dJ7_copyOf_59c91_0 rfl (lv_at hl 1 rfl) ?_
  refine lv_aload_n hx hb dJ7_copyOf_59c91_1 rfl (lv_at hl 0 rfl) ?_
  refine va_alen (v := nI n) hx hb hK hP 0 0 rfl rfl rfl dJ7_copyOf_59c91_2 ?_
  refine gy_ne (a := n2) (b := n) (tgt := 14) hx hb (by omega) (by omega) dJ7_copyOf_59c91_3 (by decide) (fun c_1 => ?_) (fun c_1 => ?_)
  · refine lv_iload_n hx hb dJ7_copyOf_59c91_14 rfl (lv_at hl 1 rfl) ?_
    refine gx_newI hx hb (hts (.arrayClass .int) (by decide +kernel)) hK hP hD hS hA (n2) (nI_pos (by omega)) (nI_clamp (by omega)) (by show (n2) * 4 ≤ 536870912; omega) (by show (0) + 1 ≤ 1; exact Nat.le_of_ble_eq_true rfl) (by show (0) + (n2) ≤ 102000; omega) dJ7_copyOf_59c91_15 (fun q2 H hP hD hS => ?_)
    have hP : va_P D vwCl [(a, .inl (cI, n, .inl f)), (q2, .inl (cI, n2, .inl (fun _ => 0)))] H := hP
    have hD : va_D A [(a, .inl (cI, n, .inl f)), (q2, .inl (cI, n2, .inl (fun _ => 0)))] := hD
    refine lv_astore_n (lv' := [(2, .ref q2), (0, .ref a), (1, .int (nI n2))]) hx hb dJ7_copyOf_59c91_17 rfl hl (by decide) rfl (fun ls hl => ?_)
    refine lv_aload_n hx hb dJ7_copyOf_59c91_18 rfl (lv_at hl 1 rfl) ?_
    refine lv_iconst (v := 0) hx hb dJ7_copyOf_59c91_19 (by decide) ?_
    refine lv_aload_n hx hb dJ7_copyOf_59c91_20 rfl (lv_at hl 0 rfl) ?_
    refine lv_iconst (v := 0) hx hb dJ7_copyOf_59c91_21 (by decide) ?_
    refine lv_aload_n hx hb dJ7_copyOf_59c91_22 rfl (lv_at hl 1 rfl) ?_
    refine va_alen (v := nI n) hx hb hK hP 0 0 rfl rfl rfl dJ7_copyOf_59c91_23 ?_
    refine lv_iload_n hx hb dJ7_copyOf_59c91_24 rfl (lv_at hl 2 rfl) ?_
    refine va_mmin hx hb (hml.trans hl.1.symm) hown (hts (.methodLink RJ7 304 Lib.Math.min.name) (by decide +kernel)) (hts (.static Lib.Math.min.name) (by decide +kernel)) (hts (.initialized "java/lang/Math") (by decide +kernel)) (hts (.code Lib.Math.min.name Lib.Math.min.code 2 (some .int)) (by decide +kernel)) (Nat.le_of_ble_eq_true rfl) (Nat.le_of_ble_eq_true rfl) (by show 0 + 1 ≤ 1; exact Nat.le_of_ble_eq_true rfl) (by show 0 + (n2) ≤ 102000; omega) dJ7_copyOf_59c91_25 ?_
    refine gx_top (y := nI (min n n2)) (gy_min (a := n) (b := n2) (by omega) (by omega)) ?_
    obtain ⟨m_3, hm_3⟩ : ∃ z9, z9 = min n n2 := ⟨_, rfl⟩
    rw [← hm_3]
    refine gy_copyi (sp := 0) (dp := 0) (n := m_3) hx hb (hml.trans hl.1.symm) hown (hts (.methodLink RJ7 150 arraycopyName) (by decide +kernel)) (hts (.native arraycopyName) (by decide +kernel)) (hts (.static arraycopyName) (by decide +kernel)) (hts (.initialized "java/lang/System") (by decide +kernel)) hK hP hD hS 0 1 rfl rfl (by omega) (by omega) (by omega) (by omega) (by omega) (Nat.le_of_ble_eq_true rfl) (Nat.le_of_ble_eq_true rfl) dJ7_copyOf_59c91_28 (fun H locs hP hD hS => ?_)
    have hP : va_P D vwCl [(a, .inl (cI, n, .inl f)), (q2, .inl (cI, n2, .inl (va_cpy f (fun _ => 0) 0 0 m_3)))] H := hP
    have hD : va_D A [(a, .inl (cI, n, .inl f)), (q2, .inl (cI, n2, .inl (va_cpy f (fun _ => 0) 0 0 m_3)))] := hD
    refine lv_aload_n hx hb dJ7_copyOf_59c91_31 rfl (lv_at hl 0 rfl) ?_
    exact gw_aret (post := po_c_copyOf cI cB cZ a n f n2) (w' := [(a, .inl (cI, n, .inl f)), (q2, .inl (cI, n2, .inl (va_cpy f (fun _ => 0) 0 0 m_3)))]) (k := 1) (n := n2) hx hb hr (Or.inr ⟨_, rfl⟩) hlk hK hP hD hS (by show 0 + 1 ≤ 1; exact Nat.le_of_ble_eq_true rfl) (by show 0 + (n2) ≤ 102000; omega) (by show 0 + 1 ≤ 1; exact Nat.le_of_ble_eq_true rfl) (by show 0 + (n2) ≤ n2; omega) dJ7_copyOf_59c91_32 ⟨q2, (va_cpy f (fun _ => 0) 0 0 m_3), (fun j h => by rw [pk_cpy_in (by omega) (by omega)]; congr 1; omega), rfl, rfl, rfl, rfl⟩
  · exfalso; omega
def wsP_c_fetch : List Cond := .code yX1_fetch cX1_fetch 2 none :: (([.fieldLink RX1 32 "LitmusHall$Explorer" "rows" "[I", .fieldLink RX1 28 "LitmusHall$Explorer" "width" "I", .fieldLink RX1 21 "LitmusHall$Explorer" "state" "LLitmusHall$State;", .fieldLink RX1 61 "LitmusHall$State" "words" "[I", .methodLink RX1 83 arraycopyName, .native arraycopyName, .static arraycopyName, .initialized "java/lang/System"] ++ wsX10 ++ wsX70) ++ [])
theorem gW_c_fetch : wsP_c_fetch.all goodWord = true := by unfold wsP_c_fetch; exact gw_mk (by decide +kernel) rfl
set_option maxHeartbeats 4000000 in
set_option maxRecDepth 100000 in
theorem c_fetch (l : Launch) (D : va_G) (cI cB cZ : ClassId) (h0 : Nat) (s4 : Nat) (w4 : Nat) (a7 : Nat) (v0 : Value) (v1 : Value) (v2 : Value) (v3 : Value) (v5 : Value) (v8 : Value) (v9 : Value) (wd : Nat) (rl : Nat) (rf : Nat → Int32) (f : Nat → Int32) (n : Nat) (hw16 : 16 ≤ wd) (hw34 : wd ≤ 34) (hrl : rl ≤ 102000) (hn : n * wd + wd ≤ rl) : gMv l yX1_fetch wsP_c_fetch ({ frames := 1, cells := 0, slots := 0, locals := 40 }) D cI cB cZ [] [.ref h0, .int (nI n)] [(h0, .inr (1, [v0, v1, v2, v3, .ref s4, v5, .int (nI wd), .ref a7, v8, v9])), (s4, .inr (7, [.ref w4])), (w4, .inl (cI, 34, .inl f)), (a7, .inl (cI, rl, .inl rf))] (fun w9 => w9 = [(h0, .inr (1, [v0, v1, v2, v3, .ref s4, v5, .int (nI wd), .ref a7, v8, v9])), (s4, .inr (7, [.ref w4])), (w4, .inl (cI, 34, .inl (va_cpy rf f (n * wd) 0 wd))), (a7, .inl (cI, rl, .inl rf))]) := by
  refine gMv.of (cc := cX1_fetch) (maxL := 2) (ret := none) (by decide) rfl (Nat.le_of_ble_eq_true rfl) (fun p e s m below meth c A ls hx hb hr hlk hml hts hown hin hA hP hK hD hS hN hl => ?_)
  have hown : s.vm.findClass RX1 = some m.cls := hown
  have hl : lv_has ls 2 [(0, .ref h0), (1, .int (nI n))] := hl
  refine lv_aload_n hx hb dX1_fetch_0 rfl (lv_at hl 0 rfl) ?_
  refine va_get (D := D) (ci := 1) (v := .ref a7) (C := RX1) (T := TX1) (N := 10) hx hb hts (fun _ h => List.mem_cons_of_mem _ (List.mem_append_left _ (List.mem_append_left _ (List.mem_append_right _ h)))) hown hK hP 0 rfl rfl 7 (by decide) (hts (.fieldLink RX1 32 "LitmusHall$Explorer" "rows" "[I") (by decide +kernel)) (fun _ h9 => h9) rfl dX1_fetch_1 ?_
  refine lv_iload_n hx hb dX1_fetch_4 rfl (lv_at hl 1 rfl) ?_
  refine lv_aload_n hx hb dX1_fetch_5 rfl (lv_at hl 0 rfl) ?_
  refine va_get (D := D) (ci := 1) (v := .int (nI wd)) (C := RX1) (T := TX1) (N := 10) hx hb hts (fun _ h => List.mem_cons_of_mem _ (List.mem_append_left _ (List.mem_append_left _ (List.mem_append_right _ h)))) hown hK hP 0 rfl rfl 6 (by decide) (hts (.fieldLink RX1 28 "LitmusHall$Explorer" "width" "I") (by decide +kernel)) (fun _ h9 => h9) rfl dX1_fetch_6 ?_
  refine lv_imul hx hb dX1_fetch_9 ?_
  refine gx_top (y := nI (n * wd)) (pk_mul n wd) ?_
  refine lv_aload_n hx hb dX1_fetch_10 rfl (lv_at hl 0 rfl) ?_
  refine va_get (D := D) (ci := 1) (v := .ref s4) (C := RX1) (T := TX1) (N := 10) hx hb hts (fun _ h => List.mem_cons_of_mem _ (List.mem_append_left _ (List.mem_append_left _ (List.mem_append_right _ h)))) hown hK hP 0 rfl rfl 4 (by decide) (hts (.fieldLink RX1 21 "LitmusHall$Explorer" "state" "LLitmusHall$State;") (by decide +kernel)) (fun _ h9 => h9) rfl dX1_fetch_11 ?_
  refine va_get (D := D) (ci := 7) (v := .ref w4) (C := RX7) (T := TX7) (N := 1) hx hb hts (fun _ h => List.mem_cons_of_mem _ (List.mem_append_left _ (List.mem_append_right _ h))) hown hK hP 1 rfl rfl 0 (by decide) (hts (.fieldLink RX1 61 "LitmusHall$State" "words" "[I") (by decide +kernel)) (fun _ h9 => h9) rfl dX1_fetch_14 ?_
  refine lv_iconst (v := 0) hx hb dX1_fetch_17 (by decide) ?_
  refine lv_aload_n hx hb dX1_fetch_18 rfl (lv_at hl 0 rfl) ?_
  refine va_get (D := D) (ci := 1) (v := .int (nI wd)) (C := RX1) (T := TX1) (N := 10) hx hb hts (fun _ h => List.mem_cons_of_mem _ (List.mem_append_left _ (List.mem_append_left _ (List.mem_append_right _ h)))) hown hK hP 0 rfl rfl 6 (by decide) (hts (.fieldLink RX1 28 "LitmusHall$Explorer" "width" "I") (by decide +kernel)) (fun _ h9 => h9) rfl dX1_fetch_19 ?_
  refine gy_copyi (sp := (n * wd)) (dp := 0) (n := wd) hx hb (hml.trans hl.1.symm) hown (hts (.methodLink RX1 83 arraycopyName) (by decide +kernel)) (hts (.native arraycopyName) (by decide +kernel)) (hts (.static arraycopyName) (by decide +kernel)) (hts (.initialized "java/lang/System") (by decide +kernel)) hK hP hD hS 3 2 rfl rfl (by omega) (by omega) (by omega) (by omega) (by omega) (Nat.le_of_ble_eq_true rfl) (Nat.le_of_ble_eq_true rfl) dX1_fetch_22 (fun H locs hP hD hS => ?_)
  have hP : va_P D vwCl [(h0, .inr (1, [v0, v1, v2, v3, .ref s4, v5, .int (nI wd), .ref a7, v8, v9])), (s4, .inr (7, [.ref w4])), (w4, .inl (cI, 34, .inl (va_cpy rf f (n * wd) 0 wd))), (a7, .inl (cI, rl, .inl rf))] H := hP
  have hD : va_D A [(h0, .inr (1, [v0, v1, v2, v3, .ref s4, v5, .int (nI wd), .ref a7, v8, v9])), (s4, .inr (7, [.ref w4])), (w4, .inl (cI, 34, .inl (va_cpy rf f (n * wd) 0 wd))), (a7, .inl (cI, rl, .inl rf))] := hD
  exact gx_vret (w' := [(h0, .inr (1, [v0, v1, v2, v3, .ref s4, v5, .int (nI wd), .ref a7, v8, v9])), (s4, .inr (7, [.ref w4])), (w4, .inl (cI, 34, .inl (va_cpy rf f (n * wd) 0 wd))), (a7, .inl (cI, rl, .inl rf))]) hx hb hr hlk hK hP hD hS (Nat.le_of_ble_eq_true rfl) (Nat.le_of_ble_eq_true rfl) dX1_fetch_25 rfl
def wsP_c_hashOf : List Cond := .code yX1_hashOf cX1_hashOf 4 (some .int) :: (([.fieldLink RX1 28 "LitmusHall$Explorer" "width" "I", .constant RX1 105 (-2048144789)] ++ wsX10) ++ [])
theorem gW_c_hashOf : wsP_c_hashOf.all goodWord = true := by unfold wsP_c_hashOf; exact gw_mk (by decide +kernel) rfl
set_option maxHeartbeats 4000000 in
set_option maxRecDepth 100000 in
theorem c_hashOf (l : Launch) (D : va_G) (cI cB cZ : ClassId) (h0 : Nat) (a : Nat) (v0 : Value) (v1 : Value) (v2 : Value) (v3 : Value) (v4 : Value) (v5 : Value) (v7 : Value) (v8 : Value) (v9 : Value) (wd : Nat) (f : Nat → Int32) (hw16 : 16 ≤ wd) (hw34 : wd ≤ 34) : gMi l yX1_hashOf wsP_c_hashOf ({ frames := 0, cells := 0, slots := 0, locals := 0 }) D cI cB cZ [] [.ref h0, .ref a] [(h0, .inr (1, [v0, v1, v2, v3, v4, v5, .int (nI wd), v7, v8, v9])), (a, .inl (cI, 34, .inl f))] (fun r9 w9 => ∃ z : Int32, r9 = z ∧ w9 = [(h0, .inr (1, [v0, v1, v2, v3, v4, v5, .int (nI wd), v7, v8, v9])), (a, .inl (cI, 34, .inl f))]) := by
  refine gMi.of (cc := cX1_hashOf) (maxL := 4) (ret := (some .int)) (by decide) rfl (Nat.le_of_ble_eq_true rfl) (fun p e s m below meth c A ls hx hb hr hlk hml hts hown hin hA hP hK hD hS hN hl => ?_)
  have hown : s.vm.findClass RX1 = some m.cls := hown
  have hl : lv_has ls 4 [(0, .ref h0), (1, .ref a)] := hl
  refine lv_iconst (v := 0) hx hb dX1_hashOf_0 (by decide) ?_
  refine lv_istore_n (lv' := [(2, .int 0), (0, .ref h0), (1, .ref a)]) hx hb dX1_hashOf_1 rfl hl (by decide) rfl (fun ls hl => ?_)
  refine lv_iconst (v := 0) hx hb dX1_hashOf_2 (by decide) ?_
  refine lv_istore_n (lv' := [(3, .int 0), (2, .int 0), (0, .ref h0), (1, .ref a)]) hx hb dX1_hashOf_3 rfl hl (by decide) rfl (fun ls hl => ?_)
  refine gy_loop0 (I := fun (x9 : Nat × Int32) H locs ls => (x9.1 ≤ wd) ∧ va_P D vwCl [(h0, .inr (1, [v0, v1, v2, v3, v4, v5, .int (nI wd), v7, v8, v9])), (a, .inl (cI, 34, .inl f))] H ∧ va_D A [(h0, .inr (1, [v0, v1, v2, v3, v4, v5, .int (nI wd), v7, v8, v9])), (a, .inl (cI, 34, .inl f))] ∧ va_S A s.heap H locs ∧ lv_has ls 4 [(3, .int (nI x9.1)), (2, .int x9.2), (0, .ref h0), (1, .ref a)]) (μ := fun (x9 : Nat × Int32) => wd - x9.1) (fun x9 H locs ls hI ih4 => ?_) (0, 0) ⟨(by show 0 ≤ wd; exact Nat.zero_le _), hP, hD, hS, lv_sub hl [0, 1, 2, 3] rfl⟩
  obtain ⟨i, z⟩ := x9
  obtain ⟨hi4_0, hP, hD, hS, hl⟩ := hI
  have hi4_0 : i ≤ wd := hi4_0
  have hP : va_P D vwCl [(h0, .inr (1, [v0, v1, v2, v3, v4, v5, .int (nI wd), v7, v8, v9])), (a, .inl (cI, 34, .inl f))] H := hP
  have hD : va_D A [(h0, .inr (1, [v0, v1, v2, v3, v4, v5, .int (nI wd), v7, v8, v9])), (a, .inl (cI, 34, .inl f))] := hD
  have hS : va_S A s.heap H locs := hS
  have hl : lv_has ls 4 [(3, .int (nI i)), (2, .int z), (0, .ref h0), (1, .ref a)] := hl
  refine lv_iload_n hx hb dX1_hashOf_4 rfl (lv_at hl 0 rfl) ?_
  refine lv_aload_n hx hb dX1_hashOf_5 rfl (lv_at hl 2 rfl) ?_
  refine va_get (D := D) (ci := 1) (v := .int (nI wd)) (C := RX1) (T := TX1) (N := 10) hx hb hts (fun _ h => List.mem_cons_of_mem _ (List.mem_append_left _ (List.mem_append_right _ h))) hown hK hP 0 rfl rfl 6 (by decide) (hts (.fieldLink RX1 28 "LitmusHall$Explorer" "width" "I") (by decide +kernel)) (fun _ h9 => h9) rfl dX1_hashOf_6 ?_
  refine gy_ge (a := i) (b := wd) (tgt := 27) hx hb (by omega) (by omega) dX1_hashOf_9 (by decide) (fun c_1 => ?_) (fun c_1 => ?_)
  · refine lv_iload_n hx hb dX1_hashOf_27 rfl (lv_at hl 1 rfl) ?_
    refine lv_iload_n hx hb dX1_hashOf_28 rfl (lv_at hl 1 rfl) ?_
    refine lv_bipush (v := 16) hx hb dX1_hashOf_29 (by decide) ?_
    refine lv_iushr (v := ((z).toUInt32 >>> ((16 : Int32).toUInt32 &&& Int32.toUInt32 31)).toInt32) hx hb dX1_hashOf_31 rfl ?_
    refine gx_gen (fun z_2 => ?_)
    refine lv_ixor hx hb dX1_hashOf_32 ?_
    refine gx_gen (fun z_3 => ?_)
    refine lv_ldc hx hb hown (hts (.constant RX1 105 (-2048144789)) (by decide +kernel)) dX1_hashOf_33 ?_
    refine lv_imul hx hb dX1_hashOf_35 ?_
    refine gx_gen (fun z_4 => ?_)
    refine lv_istore_n (lv' := [(2, .int z_4), (3, .int (nI i)), (0, .ref h0), (1, .ref a)]) hx hb dX1_hashOf_36 rfl hl (by decide) rfl (fun ls hl => ?_)
    refine lv_iload_n hx hb dX1_hashOf_37 rfl (lv_at hl 0 rfl) ?_
    refine lv_iload_n hx hb dX1_hashOf_38 rfl (lv_at hl 0 rfl) ?_
    refine lv_bipush (v := 13) hx hb dX1_hashOf_39 (by decide) ?_
    refine lv_iushr (v := ((z_4).toUInt32 >>> ((13 : Int32).toUInt32 &&& Int32.toUInt32 31)).toInt32) hx hb dX1_hashOf_41 rfl ?_
    refine gx_gen (fun z_5 => ?_)
    refine lv_ixor hx hb dX1_hashOf_42 ?_
    refine gx_gen (fun z_6 => ?_)
    exact gx_iret (w' := [(h0, .inr (1, [v0, v1, v2, v3, v4, v5, .int (nI wd), v7, v8, v9])), (a, .inl (cI, 34, .inl f))]) hx hb hr hlk hK hP hD hS (Nat.le_of_ble_eq_true rfl) (Nat.le_of_ble_eq_true rfl) dX1_hashOf_43 ⟨z_6, rfl, rfl⟩
  · refine lv_iload_n hx hb dX1_hashOf_12 rfl (lv_at hl 1 rfl) ?_
    refine lv_bipush (v := 31) hx hb dX1_hashOf_13 (by decide) ?_
    refine lv_imul hx hb dX1_hashOf_15 ?_
    refine gx_gen (fun z_7 => ?_)
    refine lv_aload_n hx hb dX1_hashOf_16 rfl (lv_at hl 3 rfl) ?_
    refine lv_iload_n hx hb dX1_hashOf_17 rfl (lv_at hl 0 rfl) ?_
    refine gy_ild (i := i) hx hb hK hP 1 rfl (by omega) (by omega) dX1_hashOf_18 ?_
    refine gx_gen (fun z_8 => ?_)
    refine lv_iadd hx hb dX1_hashOf_19 ?_
    refine gx_gen (fun z_9 => ?_)
    refine lv_istore_n (lv' := [(2, .int z_9), (3, .int (nI i)), (0, .ref h0), (1, .ref a)]) hx hb dX1_hashOf_20 rfl hl (by decide) rfl (fun ls hl => ?_)
    refine lv_iinc (v := nI (i + 1)) (lv' := [(3, .int (nI (i + 1))), (2, .int z_9), (0, .ref h0), (1, .ref a)]) hx hb dX1_hashOf_21 hl (k := 1) rfl (nI_add i 1) (by decide) rfl (fun ls hl => ?_)
    refine lv_goto (tgt := 4) hx hb dX1_hashOf_24 (by decide) ?_
    exact ih4 ((i + 1), z_9) H locs ls ⟨(by show (i + 1) ≤ wd; omega), hP, hD, hS, lv_sub hl [0, 1, 2, 3] rfl⟩ (by show wd - (i + 1) < wd - i; omega)
def wsP_c_xSame : List Cond := .code yX1_isSame cX1_isSame 5 (some .boolean) :: (([.fieldLink RX1 28 "LitmusHall$Explorer" "width" "I", .fieldLink RX1 32 "LitmusHall$Explorer" "rows" "[I"] ++ wsX10) ++ [])
theorem gW_c_xSame : wsP_c_xSame.all goodWord = true := by unfold wsP_c_xSame; exact gw_mk (by decide +kernel) rfl
set_option maxHeartbeats 4000000 in
set_option maxRecDepth 100000 in
theorem c_xSame (l : Launch) (D : va_G) (cI cB cZ : ClassId) (h0 : Nat) (a : Nat) (a7 : Nat) (v0 : Value) (v1 : Value) (v2 : Value) (v3 : Value) (v4 : Value) (v5 : Value) (v8 : Value) (v9 : Value) (wd : Nat) (rl : Nat) (rf : Nat → Int32) (f : Nat → Int32) (n : Nat) (hw16 : 16 ≤ wd) (hw34 : wd ≤ 34) (hrl : rl ≤ 102000) (hn : n * wd + wd ≤ rl) : gMi l yX1_isSame wsP_c_xSame ({ frames := 0, cells := 0, slots := 0, locals := 0 }) D cI cB cZ [] [.ref h0, .int (nI n), .ref a] [(h0, .inr (1, [v0, v1, v2, v3, v4, v5, .int (nI wd), .ref a7, v8, v9])), (a, .inl (cI, 34, .inl f)), (a7, .inl (cI, rl, .inl rf))] (fun r9 w9 => ∃ z : Int32, (z = 0 ∨ z = 1) ∧ r9 = z ∧ w9 = [(h0, .inr (1, [v0, v1, v2, v3, v4, v5, .int (nI wd), .ref a7, v8, v9])), (a, .inl (cI, 34, .inl f)), (a7, .inl (cI, rl, .inl rf))]) := by
  refine gMi.of (cc := cX1_isSame) (maxL := 5) (ret := (some .boolean)) (by decide) rfl (Nat.le_of_ble_eq_true rfl) (fun p e s m below meth c A ls hx hb hr hlk hml hts hown hin hA hP hK hD hS hN hl => ?_)
  have hown : s.vm.findClass RX1 = some m.cls := hown
  have hl : lv_has ls 5 [(0, .ref h0), (1, .int (nI n)), (2, .ref a)] := hl
  refine lv_iload_n hx hb dX1_isSame_0 rfl (lv_at hl 1 rfl) ?_
  refine lv_aload_n hx hb dX1_isSame_1 rfl (lv_at hl 0 rfl) ?_
  refine va_get (D := D) (ci := 1) (v := .int (nI wd)) (C := RX1) (T := TX1) (N := 10) hx hb hts (fun _ h => List.mem_cons_of_mem _ (List.mem_append_left _ (List.mem_append_right _ h))) hown hK hP 0 rfl rfl 6 (by decide) (hts (.fieldLink RX1 28 "LitmusHall$Explorer" "width" "I") (by decide +kernel)) (fun _ h9 => h9) rfl dX1_isSame_2 ?_
  refine lv_imul hx hb dX1_isSame_5 ?_
  refine gx_top (y := nI (n * wd)) (pk_mul n wd) ?_
  refine lv_istore_n (lv' := [(3, .int (nI (n * wd))), (0, .ref h0), (1, .int (nI n)), (2, .ref a)]) hx hb dX1_isSame_6 rfl hl (by decide) rfl (fun ls hl => ?_)
  refine lv_iconst (v := 0) hx hb dX1_isSame_7 (by decide) ?_
  refine lv_istore (lv' := [(4, .int 0), (3, .int (nI (n * wd))), (0, .ref h0), (1, .int (nI n)), (2, .ref a)]) hx hb dX1_isSame_8 hl (by decide) rfl (fun ls hl => ?_)
  refine gy_loop0 (I := fun (x9 : Nat) H locs ls => (x9 ≤ wd) ∧ va_P D vwCl [(h0, .inr (1, [v0, v1, v2, v3, v4, v5, .int (nI wd), .ref a7, v8, v9])), (a, .inl (cI, 34, .inl f)), (a7, .inl (cI, rl, .inl rf))] H ∧ va_D A [(h0, .inr (1, [v0, v1, v2, v3, v4, v5, .int (nI wd), .ref a7, v8, v9])), (a, .inl (cI, 34, .inl f)), (a7, .inl (cI, rl, .inl rf))] ∧ va_S A s.heap H locs ∧ lv_has ls 5 [(4, .int (nI x9)), (3, .int (nI (n * wd))), (0, .ref h0), (1, .int (nI n)), (2, .ref a)]) (μ := fun (x9 : Nat) => wd - x9) (fun x9 H locs ls hI ih10 => ?_) 0 ⟨(by show 0 ≤ wd; exact Nat.zero_le _), hP, hD, hS, lv_sub hl [0, 1, 2, 3, 4] rfl⟩
  obtain ⟨i, rfl⟩ : ∃ z9, z9 = x9 := ⟨_, rfl⟩
  obtain ⟨hi10_0, hP, hD, hS, hl⟩ := hI
  have hi10_0 : i ≤ wd := hi10_0
  have hP : va_P D vwCl [(h0, .inr (1, [v0, v1, v2, v3, v4, v5, .int (nI wd), .ref a7, v8, v9])), (a, .inl (cI, 34, .inl f)), (a7, .inl (cI, rl, .inl rf))] H := hP
  have hD : va_D A [(h0, .inr (1, [v0, v1, v2, v3, v4, v5, .int (nI wd), .ref a7, v8, v9])), (a, .inl (cI, 34, .inl f)), (a7, .inl (cI, rl, .inl rf))] := hD
  have hS : va_S A s.heap H locs := hS
  have hl : lv_has ls 5 [(4, .int (nI i)), (3, .int (nI (n * wd))), (0, .ref h0), (1, .int (nI n)), (2, .ref a)] := hl
  refine lv_iload hx hb dX1_isSame_10 (lv_at hl 0 rfl) ?_
  refine lv_aload_n hx hb dX1_isSame_12 rfl (lv_at hl 2 rfl) ?_
  refine va_get (D := D) (ci := 1) (v := .int (nI wd)) (C := RX1) (T := TX1) (N := 10) hx hb hts (fun _ h => List.mem_cons_of_mem _ (List.mem_append_left _ (List.mem_append_right _ h))) hown hK hP 0 rfl rfl 6 (by decide) (hts (.fieldLink RX1 28 "LitmusHall$Explorer" "width" "I") (by decide +kernel)) (fun _ h9 => h9) rfl dX1_isSame_13 ?_
  refine gy_ge (a := i) (b := wd) (tgt := 43) hx hb (by omega) (by omega) dX1_isSame_16 (by decide) (fun c_1 => ?_) (fun c_1 => ?_)
  · refine lv_iconst (v := 1) hx hb dX1_isSame_43 (by decide) ?_
    exact gx_zret (w' := [(h0, .inr (1, [v0, v1, v2, v3, v4, v5, .int (nI wd), .ref a7, v8, v9])), (a, .inl (cI, 34, .inl f)), (a7, .inl (cI, rl, .inl rf))]) hx hb hr hlk hK hP hD hS (Nat.le_of_ble_eq_true rfl) (Nat.le_of_ble_eq_true rfl) dX1_isSame_44 rfl ⟨1, (by decide), rfl, rfl⟩
  · refine lv_aload_n hx hb dX1_isSame_19 rfl (lv_at hl 2 rfl) ?_
    refine va_get (D := D) (ci := 1) (v := .ref a7) (C := RX1) (T := TX1) (N := 10) hx hb hts (fun _ h => List.mem_cons_of_mem _ (List.mem_append_left _ (List.mem_append_right _ h))) hown hK hP 0 rfl rfl 7 (by decide) (hts (.fieldLink RX1 32 "LitmusHall$Explorer" "rows" "[I") (by decide +kernel)) (fun _ h9 => h9) rfl dX1_isSame_20 ?_
    refine lv_iload_n hx hb dX1_isSame_23 rfl (lv_at hl 1 rfl) ?_
    refine lv_iload hx hb dX1_isSame_24 (lv_at hl 0 rfl) ?_
    refine lv_iadd hx hb dX1_isSame_26 ?_
    refine gx_top (y := nI ((n * wd) + i)) (nI_add (n * wd) i) ?_
    refine gy_ild (i := ((n * wd) + i)) hx hb hK hP 2 rfl (by omega) (by omega) dX1_isSame_27 ?_
    refine gx_gen (fun z_2 => ?_)
    refine lv_aload_n hx hb dX1_isSame_28 rfl (lv_at hl 4 rfl) ?_
    refine lv_iload hx hb dX1_isSame_29 (lv_at hl 0 rfl) ?_
    refine gy_ild (i := i) hx hb hK hP 1 rfl (by omega) (by omega) dX1_isSame_31 ?_
    refine gx_gen (fun z_3 => ?_)
    refine lv_icmp_eq (tgt := 37) hx hb dX1_isSame_32 (by decide) (fun c_4 => ?_) (fun c_4 => ?_)
    · refine lv_iinc (v := nI (i + 1)) (lv' := [(4, .int (nI (i + 1))), (3, .int (nI (n * wd))), (0, .ref h0), (1, .int (nI n)), (2, .ref a)]) hx hb dX1_isSame_37 hl (k := 0) rfl (nI_add i 1) (by decide) rfl (fun ls hl => ?_)
      refine lv_goto (tgt := 10) hx hb dX1_isSame_40 (by decide) ?_
      exact ih10 (i + 1) H locs ls ⟨(by show (i + 1) ≤ wd; omega), hP, hD, hS, lv_sub hl [0, 1, 2, 3, 4] rfl⟩ (by show wd - (i + 1) < wd - i; omega)
    · refine lv_iconst (v := 0) hx hb dX1_isSame_35 (by decide) ?_
      exact gx_zret (w' := [(h0, .inr (1, [v0, v1, v2, v3, v4, v5, .int (nI wd), .ref a7, v8, v9])), (a, .inl (cI, 34, .inl f)), (a7, .inl (cI, rl, .inl rf))]) hx hb hr hlk hK hP hD hS (Nat.le_of_ble_eq_true rfl) (Nat.le_of_ble_eq_true rfl) dX1_isSame_36 rfl ⟨0, (by decide), rfl, rfl⟩
def wsP_c_isBefore : List Cond := .code yX1_isBefore cX1_isBefore 6 (some .boolean) :: (([.fieldLink RX1 32 "LitmusHall$Explorer" "rows" "[I", .fieldLink RX1 28 "LitmusHall$Explorer" "width" "I"] ++ wsX10) ++ [])
theorem gW_c_isBefore : wsP_c_isBefore.all goodWord = true := by unfold wsP_c_isBefore; exact gw_mk (by decide +kernel) rfl
set_option maxHeartbeats 4000000 in
set_option maxRecDepth 100000 in
theorem c_isBefore (l : Launch) (D : va_G) (cI cB cZ : ClassId) (h0 : Nat) (a7 : Nat) (v0 : Value) (v1 : Value) (v2 : Value) (v3 : Value) (v4 : Value) (v5 : Value) (v8 : Value) (v9 : Value) (wd : Nat) (rl : Nat) (rf : Nat → Int32) (n : Nat) (q : Nat) (hw16 : 16 ≤ wd) (hw34 : wd ≤ 34) (hrl : rl ≤ 102000) (hn : n * wd + wd ≤ rl) (hq : q * wd + wd ≤ rl) : gMi l yX1_isBefore wsP_c_isBefore ({ frames := 0, cells := 0, slots := 0, locals := 0 }) D cI cB cZ [] [.ref h0, .int (nI n), .int (nI q)] [(h0, .inr (1, [v0, v1, v2, v3, v4, v5, .int (nI wd), .ref a7, v8, v9])), (a7, .inl (cI, rl, .inl rf))] (fun r9 w9 => ∃ z : Int32, (z = 0 ∨ z = 1) ∧ r9 = z ∧ w9 = [(h0, .inr (1, [v0, v1, v2, v3, v4, v5, .int (nI wd), .ref a7, v8, v9])), (a7, .inl (cI, rl, .inl rf))]) := by
  refine gMi.of (cc := cX1_isBefore) (maxL := 6) (ret := (some .boolean)) (by decide) rfl (Nat.le_of_ble_eq_true rfl) (fun p e s m below meth c A ls hx hb hr hlk hml hts hown hin hA hP hK hD hS hN hl => ?_)
  have hown : s.vm.findClass RX1 = some m.cls := hown
  have hl : lv_has ls 6 [(0, .ref h0), (1, .int (nI n)), (2, .int (nI q))] := hl
  refine lv_iconst (v := 0) hx hb dX1_isBefore_0 (by decide) ?_
  refine lv_istore_n (lv' := [(3, .int 0), (0, .ref h0), (1, .int (nI n)), (2, .int (nI q))]) hx hb dX1_isBefore_1 rfl hl (by decide) rfl (fun ls hl => ?_)
  refine gy_loop0 (I := fun (x9 : Nat) H locs ls => (x9 ≤ 13) ∧ va_P D vwCl [(h0, .inr (1, [v0, v1, v2, v3, v4, v5, .int (nI wd), .ref a7, v8, v9])), (a7, .inl (cI, rl, .inl rf))] H ∧ va_D A [(h0, .inr (1, [v0, v1, v2, v3, v4, v5, .int (nI wd), .ref a7, v8, v9])), (a7, .inl (cI, rl, .inl rf))] ∧ va_S A s.heap H locs ∧ lv_has ls 6 [(3, .int (nI x9)), (0, .ref h0), (1, .int (nI n)), (2, .int (nI q))]) (μ := fun (x9 : Nat) => 13 - x9) (fun x9 H locs ls hI ih2 => ?_) 0 ⟨(by show 0 ≤ 13; exact Nat.le_of_ble_eq_true rfl), hP, hD, hS, lv_sub hl [0, 1, 2, 3] rfl⟩
  obtain ⟨i, rfl⟩ : ∃ z9, z9 = x9 := ⟨_, rfl⟩
  obtain ⟨hi2_0, hP, hD, hS, hl⟩ := hI
  have hi2_0 : i ≤ 13 := hi2_0
  have hP : va_P D vwCl [(h0, .inr (1, [v0, v1, v2, v3, v4, v5, .int (nI wd), .ref a7, v8, v9])), (a7, .inl (cI, rl, .inl rf))] H := hP
  have hD : va_D A [(h0, .inr (1, [v0, v1, v2, v3, v4, v5, .int (nI wd), .ref a7, v8, v9])), (a7, .inl (cI, rl, .inl rf))] := hD
  have hS : va_S A s.heap H locs := hS
  have hl : lv_has ls 6 [(3, .int (nI i)), (0, .ref h0), (1, .int (nI n)), (2, .int (nI q))] := hl
  refine lv_iload_n hx hb dX1_isBefore_2 rfl (lv_at hl 0 rfl) ?_
  refine lv_bipush (v := 13) hx hb dX1_isBefore_3 (by decide) ?_
  refine gy_ge (a := i) (b := 13) (tgt := 64) hx hb (by omega) (by omega) dX1_isBefore_5 (by decide) (fun c_1 => ?_) (fun c_1 => ?_)
  · refine lv_iconst (v := 0) hx hb dX1_isBefore_64 (by decide) ?_
    exact gx_zret (w' := [(h0, .inr (1, [v0, v1, v2, v3, v4, v5, .int (nI wd), .ref a7, v8, v9])), (a7, .inl (cI, rl, .inl rf))]) hx hb hr hlk hK hP hD hS (Nat.le_of_ble_eq_true rfl) (Nat.le_of_ble_eq_true rfl) dX1_isBefore_65 rfl ⟨0, (by decide), rfl, rfl⟩
  · refine lv_aload_n hx hb dX1_isBefore_8 rfl (lv_at hl 1 rfl) ?_
    refine va_get (D := D) (ci := 1) (v := .ref a7) (C := RX1) (T := TX1) (N := 10) hx hb hts (fun _ h => List.mem_cons_of_mem _ (List.mem_append_left _ (List.mem_append_right _ h))) hown hK hP 0 rfl rfl 7 (by decide) (hts (.fieldLink RX1 32 "LitmusHall$Explorer" "rows" "[I") (by decide +kernel)) (fun _ h9 => h9) rfl dX1_isBefore_9 ?_
    refine lv_iload_n hx hb dX1_isBefore_12 rfl (lv_at hl 2 rfl) ?_
    refine lv_aload_n hx hb dX1_isBefore_13 rfl (lv_at hl 1 rfl) ?_
    refine va_get (D := D) (ci := 1) (v := .int (nI wd)) (C := RX1) (T := TX1) (N := 10) hx hb hts (fun _ h => List.mem_cons_of_mem _ (List.mem_append_left _ (List.mem_append_right _ h))) hown hK hP 0 rfl rfl 6 (by decide) (hts (.fieldLink RX1 28 "LitmusHall$Explorer" "width" "I") (by decide +kernel)) (fun _ h9 => h9) rfl dX1_isBefore_14 ?_
    refine lv_imul hx hb dX1_isBefore_17 ?_
    refine gx_top (y := nI (n * wd)) (pk_mul n wd) ?_
    refine lv_iload_n hx hb dX1_isBefore_18 rfl (lv_at hl 0 rfl) ?_
    refine lv_iadd hx hb dX1_isBefore_19 ?_
    refine gx_top (y := nI ((n * wd) + i)) (nI_add (n * wd) i) ?_
    refine gy_ild (i := ((n * wd) + i)) hx hb hK hP 1 rfl (by omega) (by omega) dX1_isBefore_20 ?_
    refine gx_gen (fun z_2 => ?_)
    refine lv_istore (lv' := [(4, .int z_2), (3, .int (nI i)), (0, .ref h0), (1, .int (nI n)), (2, .int (nI q))]) hx hb dX1_isBefore_21 hl (by decide) rfl (fun ls hl => ?_)
    refine lv_aload_n hx hb dX1_isBefore_23 rfl (lv_at hl 2 rfl) ?_
    refine va_get (D := D) (ci := 1) (v := .ref a7) (C := RX1) (T := TX1) (N := 10) hx hb hts (fun _ h => List.mem_cons_of_mem _ (List.mem_append_left _ (List.mem_append_right _ h))) hown hK hP 0 rfl rfl 7 (by decide) (hts (.fieldLink RX1 32 "LitmusHall$Explorer" "rows" "[I") (by decide +kernel)) (fun _ h9 => h9) rfl dX1_isBefore_24 ?_
    refine lv_iload_n hx hb dX1_isBefore_27 rfl (lv_at hl 4 rfl) ?_
    refine lv_aload_n hx hb dX1_isBefore_28 rfl (lv_at hl 2 rfl) ?_
    refine va_get (D := D) (ci := 1) (v := .int (nI wd)) (C := RX1) (T := TX1) (N := 10) hx hb hts (fun _ h => List.mem_cons_of_mem _ (List.mem_append_left _ (List.mem_append_right _ h))) hown hK hP 0 rfl rfl 6 (by decide) (hts (.fieldLink RX1 28 "LitmusHall$Explorer" "width" "I") (by decide +kernel)) (fun _ h9 => h9) rfl dX1_isBefore_29 ?_
    refine lv_imul hx hb dX1_isBefore_32 ?_
    refine gx_top (y := nI (q * wd)) (pk_mul q wd) ?_
    refine lv_iload_n hx hb dX1_isBefore_33 rfl (lv_at hl 1 rfl) ?_
    refine lv_iadd hx hb dX1_isBefore_34 ?_
    refine gx_top (y := nI ((q * wd) + i)) (nI_add (q * wd) i) ?_
    refine gy_ild (i := ((q * wd) + i)) hx hb hK hP 1 rfl (by omega) (by omega) dX1_isBefore_35 ?_
    refine gx_gen (fun z_3 => ?_)
    refine lv_istore (lv' := [(5, .int z_3), (4, .int z_2), (3, .int (nI i)), (0, .ref h0), (1, .int (nI n)), (2, .int (nI q))]) hx hb dX1_isBefore_36 hl (by decide) rfl (fun ls hl => ?_)
    refine lv_iload hx hb dX1_isBefore_38 (lv_at hl 1 rfl) ?_
    refine lv_iload hx hb dX1_isBefore_40 (lv_at hl 0 rfl) ?_
    refine lv_icmp_eq (tgt := 58) hx hb dX1_isBefore_42 (by decide) (fun c_4 => ?_) (fun c_4 => ?_)
    · refine lv_iinc (v := nI (i + 1)) (lv' := [(3, .int (nI (i + 1))), (5, .int z_3), (4, .int z_2), (0, .ref h0), (1, .int (nI n)), (2, .int (nI q))]) hx hb dX1_isBefore_58 hl (k := 2) rfl (nI_add i 1) (by decide) rfl (fun ls hl => ?_)
      refine lv_goto (tgt := 2) hx hb dX1_isBefore_61 (by decide) ?_
      exact ih2 (i + 1) H locs ls ⟨(by show (i + 1) ≤ 13; omega), hP, hD, hS, lv_sub hl [0, 3, 4, 5] rfl⟩ (by show 13 - (i + 1) < 13 - i; omega)
    · refine lv_iload hx hb dX1_isBefore_45 (lv_at hl 1 rfl) ?_
      refine lv_iload hx hb dX1_isBefore_47 (lv_at hl 0 rfl) ?_
      refine lv_icmp_ge (tgt := 56) hx hb dX1_isBefore_49 (by decide) (fun c_5 => ?_) (fun c_5 => ?_)
      · refine lv_iconst (v := 0) hx hb dX1_isBefore_56 (by decide) ?_
        exact gx_zret (w' := [(h0, .inr (1, [v0, v1, v2, v3, v4, v5, .int (nI wd), .ref a7, v8, v9])), (a7, .inl (cI, rl, .inl rf))]) hx hb hr hlk hK hP hD hS (Nat.le_of_ble_eq_true rfl) (Nat.le_of_ble_eq_true rfl) dX1_isBefore_57 rfl ⟨0, (by decide), rfl, rfl⟩
      · refine lv_iconst (v := 1) hx hb dX1_isBefore_52 (by decide) ?_
        refine lv_goto (tgt := 57) hx hb dX1_isBefore_53 (by decide) ?_
        exact gx_zret (w' := [(h0, .inr (1, [v0, v1, v2, v3, v4, v5, .int (nI wd), .ref a7, v8, v9])), (a7, .inl (cI, rl, .inl rf))]) hx hb hr hlk hK hP hD hS (Nat.le_of_ble_eq_true rfl) (Nat.le_of_ble_eq_true rfl) dX1_isBefore_57 rfl ⟨1, (by decide), rfl, rfl⟩