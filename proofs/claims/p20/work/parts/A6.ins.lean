theorem dX6_readIns_0 : decode cX6_readIns 0 = .ok (.aload_n 0, 1) := by decide +kernel
theorem dX6_readIns_1 : decode cX6_readIns 1 = .ok (.getfield 22, 3) := by decide +kernel
theorem dX6_readIns_10 : decode cX6_readIns 10 = .ok (.aload_n 0, 1) := by decide +kernel
theorem dX6_readIns_11 : decode cX6_readIns 11 = .ok (.iload_n 3, 1) := by decide +kernel
theorem dX6_readIns_12 : decode cX6_readIns 12 = .ok (.invokevirtual 102, 3) := by decide +kernel
theorem dX6_readIns_15 : decode cX6_readIns 15 = .ok (.ifCond .ne 5, 3) := by decide +kernel
theorem dX6_readIns_18 : decode cX6_readIns 18 = .ok (.iconst 0, 1) := by decide +kernel
theorem dX6_readIns_19 : decode cX6_readIns 19 = .ok (.ireturn, 1) := by decide +kernel
theorem dX6_readIns_20 : decode cX6_readIns 20 = .ok (.aload_n 0, 1) := by decide +kernel
theorem dX6_readIns_21 : decode cX6_readIns 21 = .ok (.getfield 12, 3) := by decide +kernel
theorem dX6_readIns_24 : decode cX6_readIns 24 = .ok (.iload_n 1, 1) := by decide +kernel
theorem dX6_readIns_25 : decode cX6_readIns 25 = .ok (.iload_n 3, 1) := by decide +kernel
theorem dX6_readIns_26 : decode cX6_readIns 26 = .ok (.invokevirtual 135, 3) := by decide +kernel
theorem dX6_readIns_29 : decode cX6_readIns 29 = .ok (.istore 4, 2) := by decide +kernel
theorem dX6_readIns_31 : decode cX6_readIns 31 = .ok (.iload_n 3, 1) := by decide +kernel
theorem dX6_readIns_32 : decode cX6_readIns 32 = .ok (.invokestatic 139, 3) := by decide +kernel
theorem dX6_readIns_35 : decode cX6_readIns 35 = .ok (.astore 5, 2) := by decide +kernel
theorem dX6_readIns_37 : decode cX6_readIns 37 = .ok (.iconst 0, 1) := by decide +kernel
theorem dX6_readIns_38 : decode cX6_readIns 38 = .ok (.istore 6, 2) := by decide +kernel
theorem dX6_readIns_4 : decode cX6_readIns 4 = .ok (.aload_n 0, 1) := by decide +kernel
theorem dX6_readIns_40 : decode cX6_readIns 40 = .ok (.iload 6, 2) := by decide +kernel
theorem dX6_readIns_42 : decode cX6_readIns 42 = .ok (.aload 5, 2) := by decide +kernel
theorem dX6_readIns_44 : decode cX6_readIns 44 = .ok (.invokevirtual 143, 3) := by decide +kernel
theorem dX6_readIns_47 : decode cX6_readIns 47 = .ok (.if_icmp .ge 27, 3) := by decide +kernel
theorem dX6_readIns_5 : decode cX6_readIns 5 = .ok (.getfield 45, 3) := by decide +kernel
theorem dX6_readIns_50 : decode cX6_readIns 50 = .ok (.aload_n 0, 1) := by decide +kernel
theorem dX6_readIns_51 : decode cX6_readIns 51 = .ok (.iload 4, 2) := by decide +kernel
theorem dX6_readIns_53 : decode cX6_readIns 53 = .ok (.aload 5, 2) := by decide +kernel
theorem dX6_readIns_55 : decode cX6_readIns 55 = .ok (.iload 6, 2) := by decide +kernel
theorem dX6_readIns_57 : decode cX6_readIns 57 = .ok (.invokevirtual 90, 3) := by decide +kernel
theorem dX6_readIns_60 : decode cX6_readIns 60 = .ok (.invokevirtual 147, 3) := by decide +kernel
theorem dX6_readIns_63 : decode cX6_readIns 63 = .ok (.ifCond .ne 5, 3) := by decide +kernel
theorem dX6_readIns_66 : decode cX6_readIns 66 = .ok (.iconst 0, 1) := by decide +kernel
theorem dX6_readIns_67 : decode cX6_readIns 67 = .ok (.ireturn, 1) := by decide +kernel
theorem dX6_readIns_68 : decode cX6_readIns 68 = .ok (.iinc 6 1, 3) := by decide +kernel
theorem dX6_readIns_71 : decode cX6_readIns 71 = .ok (.goto (-31), 3) := by decide +kernel
theorem dX6_readIns_74 : decode cX6_readIns 74 = .ok (.aload_n 0, 1) := by decide +kernel
theorem dX6_readIns_75 : decode cX6_readIns 75 = .ok (.getfield 32, 3) := by decide +kernel
theorem dX6_readIns_78 : decode cX6_readIns 78 = .ok (.iload_n 2, 1) := by decide +kernel
theorem dX6_readIns_79 : decode cX6_readIns 79 = .ok (.aload_n 0, 1) := by decide +kernel
theorem dX6_readIns_8 : decode cX6_readIns 8 = .ok (.iaload, 1) := by decide +kernel
theorem dX6_readIns_80 : decode cX6_readIns 80 = .ok (.getfield 45, 3) := by decide +kernel
theorem dX6_readIns_83 : decode cX6_readIns 83 = .ok (.iconst 1, 1) := by decide +kernel
theorem dX6_readIns_84 : decode cX6_readIns 84 = .ok (.isub, 1) := by decide +kernel
theorem dX6_readIns_85 : decode cX6_readIns 85 = .ok (.iastore, 1) := by decide +kernel
theorem dX6_readIns_86 : decode cX6_readIns 86 = .ok (.aload_n 0, 1) := by decide +kernel
theorem dX6_readIns_87 : decode cX6_readIns 87 = .ok (.bipush 18, 2) := by decide +kernel
theorem dX6_readIns_89 : decode cX6_readIns 89 = .ok (.invokevirtual 102, 3) := by decide +kernel
theorem dX6_readIns_9 : decode cX6_readIns 9 = .ok (.istore_n 3, 1) := by decide +kernel
theorem dX6_readIns_92 : decode cX6_readIns 92 = .ok (.ireturn, 1) := by decide +kernel
theorem dX6_shapeOf_0 : decode cX6_shapeOf 0 = .ok (.iload_n 0, 1) := by decide +kernel
theorem dX6_shapeOf_1 : decode cX6_shapeOf 1 = .ok (.tableswitch 69 0 8 #[51, 54, 57, 57, 69, 51, 60, 63, 66], 51) := by decide +kernel
theorem dX6_shapeOf_52 : decode cX6_shapeOf 52 = .ok (.ldc 151, 2) := by decide +kernel
theorem dX6_shapeOf_54 : decode cX6_shapeOf 54 = .ok (.areturn, 1) := by decide +kernel
theorem dX6_shapeOf_55 : decode cX6_shapeOf 55 = .ok (.ldc 153, 2) := by decide +kernel
theorem dX6_shapeOf_57 : decode cX6_shapeOf 57 = .ok (.areturn, 1) := by decide +kernel
theorem dX6_shapeOf_58 : decode cX6_shapeOf 58 = .ok (.ldc 155, 2) := by decide +kernel
theorem dX6_shapeOf_60 : decode cX6_shapeOf 60 = .ok (.areturn, 1) := by decide +kernel
theorem dX6_shapeOf_61 : decode cX6_shapeOf 61 = .ok (.ldc 157, 2) := by decide +kernel
theorem dX6_shapeOf_63 : decode cX6_shapeOf 63 = .ok (.areturn, 1) := by decide +kernel
theorem dX6_shapeOf_64 : decode cX6_shapeOf 64 = .ok (.ldc 159, 2) := by decide +kernel
theorem dX6_shapeOf_66 : decode cX6_shapeOf 66 = .ok (.areturn, 1) := by decide +kernel
theorem dX6_shapeOf_67 : decode cX6_shapeOf 67 = .ok (.ldc 161, 2) := by decide +kernel
theorem dX6_shapeOf_69 : decode cX6_shapeOf 69 = .ok (.areturn, 1) := by decide +kernel
theorem dX6_shapeOf_70 : decode cX6_shapeOf 70 = .ok (.ldc 163, 2) := by decide +kernel
theorem dX6_shapeOf_72 : decode cX6_shapeOf 72 = .ok (.areturn, 1) := by decide +kernel
def wsP_c_shapeOf : List Cond := .code yX6_shapeOf cX6_shapeOf 1 (some (.object "java/lang/String")) :: (([]) ++ [])
theorem gW_c_shapeOf : wsP_c_shapeOf.all goodWord = true := by unfold wsP_c_shapeOf; exact gw_mk (by decide +kernel) rfl
abbrev po_c_shapeOf (cI cB cZ : ClassId) (K : gKS) (q : Nat) : Nat → va_W → Prop := (fun r9 w9 => r9 = (K.1 (gShp q)) ∧ w9 = [])
set_option maxHeartbeats 4000000 in
set_option maxRecDepth 100000 in
theorem c_shapeOf (l : Launch) (D : va_G) (cI cB cZ : ClassId) (K : gKS) (q : Nat) (hq8 : q ≤ 8) : gMrE l yX6_shapeOf wsP_c_shapeOf ({ frames := 0, cells := 0, slots := 0, locals := 0 }) D cI cB cZ K [] [.int (nI q)] [] (po_c_shapeOf cI cB cZ K q) := by
  refine gMrE.of (cc := cX6_shapeOf) (maxL := 1) (ret := (some (.object "java/lang/String"))) (by decide) rfl (Nat.le_of_ble_eq_true rfl) (fun p e s m below meth c A ls hx hb hr hlk hml hts hown hin hA hP hK hD hS hN hE hl => ?_)
  have hown : s.vm.findClass RX6 = some m.cls := hown
  have hl : lv_has ls 1 [(0, .int (nI q))] := hl
  refine lv_iload_n hx hb dX6_shapeOf_0 rfl (lv_at hl 0 rfl) ?_
  rcases (show q = 0 ∨ q = 1 ∨ q = 2 ∨ q = 3 ∨ q = 4 ∨ q = 5 ∨ q = 6 ∨ q = 7 ∨ q = 8 by omega) with rfl | rfl | rfl | rfl | rfl | rfl | rfl | rfl | rfl
  · refine lv_tableIn (off := 51) (tgt := 52) hx hb dX6_shapeOf_1 (by decide +kernel) (by decide +kernel) (by decide +kernel) (by decide) ?_
    refine va_ldcS hx hb hown (hE.lit (151, 1) (by decide)) dX6_shapeOf_52 ?_
    exact ge_aret (post := po_c_shapeOf cI cB cZ K 0) (w' := []) hx hb hr (Or.inl ⟨_, rfl⟩) hlk hK hP hD hS (Nat.le_of_ble_eq_true rfl) (Nat.le_of_ble_eq_true rfl) dX6_shapeOf_54 ⟨rfl, rfl⟩
  · refine lv_tableIn (off := 54) (tgt := 55) hx hb dX6_shapeOf_1 (by decide +kernel) (by decide +kernel) (by decide +kernel) (by decide) ?_
    refine va_ldcS hx hb hown (hE.lit (153, 2) (by decide)) dX6_shapeOf_55 ?_
    exact ge_aret (post := po_c_shapeOf cI cB cZ K 1) (w' := []) hx hb hr (Or.inl ⟨_, rfl⟩) hlk hK hP hD hS (Nat.le_of_ble_eq_true rfl) (Nat.le_of_ble_eq_true rfl) dX6_shapeOf_57 ⟨rfl, rfl⟩
  · refine lv_tableIn (off := 57) (tgt := 58) hx hb dX6_shapeOf_1 (by decide +kernel) (by decide +kernel) (by decide +kernel) (by decide) ?_
    refine va_ldcS hx hb hown (hE.lit (155, 3) (by decide)) dX6_shapeOf_58 ?_
    exact ge_aret (post := po_c_shapeOf cI cB cZ K 2) (w' := []) hx hb hr (Or.inl ⟨_, rfl⟩) hlk hK hP hD hS (Nat.le_of_ble_eq_true rfl) (Nat.le_of_ble_eq_true rfl) dX6_shapeOf_60 ⟨rfl, rfl⟩
  · refine lv_tableIn (off := 57) (tgt := 58) hx hb dX6_shapeOf_1 (by decide +kernel) (by decide +kernel) (by decide +kernel) (by decide) ?_
    refine va_ldcS hx hb hown (hE.lit (155, 3) (by decide)) dX6_shapeOf_58 ?_
    exact ge_aret (post := po_c_shapeOf cI cB cZ K 3) (w' := []) hx hb hr (Or.inl ⟨_, rfl⟩) hlk hK hP hD hS (Nat.le_of_ble_eq_true rfl) (Nat.le_of_ble_eq_true rfl) dX6_shapeOf_60 ⟨rfl, rfl⟩
  · refine lv_tableIn (off := 69) (tgt := 70) hx hb dX6_shapeOf_1 (by decide +kernel) (by decide +kernel) (by decide +kernel) (by decide) ?_
    refine va_ldcS hx hb hown (hE.lit (163, 7) (by decide)) dX6_shapeOf_70 ?_
    exact ge_aret (post := po_c_shapeOf cI cB cZ K 4) (w' := []) hx hb hr (Or.inl ⟨_, rfl⟩) hlk hK hP hD hS (Nat.le_of_ble_eq_true rfl) (Nat.le_of_ble_eq_true rfl) dX6_shapeOf_72 ⟨rfl, rfl⟩
  · refine lv_tableIn (off := 51) (tgt := 52) hx hb dX6_shapeOf_1 (by decide +kernel) (by decide +kernel) (by decide +kernel) (by decide) ?_
    refine va_ldcS hx hb hown (hE.lit (151, 1) (by decide)) dX6_shapeOf_52 ?_
    exact ge_aret (post := po_c_shapeOf cI cB cZ K 5) (w' := []) hx hb hr (Or.inl ⟨_, rfl⟩) hlk hK hP hD hS (Nat.le_of_ble_eq_true rfl) (Nat.le_of_ble_eq_true rfl) dX6_shapeOf_54 ⟨rfl, rfl⟩
  · refine lv_tableIn (off := 60) (tgt := 61) hx hb dX6_shapeOf_1 (by decide +kernel) (by decide +kernel) (by decide +kernel) (by decide) ?_
    refine va_ldcS hx hb hown (hE.lit (157, 4) (by decide)) dX6_shapeOf_61 ?_
    exact ge_aret (post := po_c_shapeOf cI cB cZ K 6) (w' := []) hx hb hr (Or.inl ⟨_, rfl⟩) hlk hK hP hD hS (Nat.le_of_ble_eq_true rfl) (Nat.le_of_ble_eq_true rfl) dX6_shapeOf_63 ⟨rfl, rfl⟩
  · refine lv_tableIn (off := 63) (tgt := 64) hx hb dX6_shapeOf_1 (by decide +kernel) (by decide +kernel) (by decide +kernel) (by decide) ?_
    refine va_ldcS hx hb hown (hE.lit (159, 5) (by decide)) dX6_shapeOf_64 ?_
    exact ge_aret (post := po_c_shapeOf cI cB cZ K 7) (w' := []) hx hb hr (Or.inl ⟨_, rfl⟩) hlk hK hP hD hS (Nat.le_of_ble_eq_true rfl) (Nat.le_of_ble_eq_true rfl) dX6_shapeOf_66 ⟨rfl, rfl⟩
  · refine lv_tableIn (off := 66) (tgt := 67) hx hb dX6_shapeOf_1 (by decide +kernel) (by decide +kernel) (by decide +kernel) (by decide) ?_
    refine va_ldcS hx hb hown (hE.lit (161, 6) (by decide)) dX6_shapeOf_67 ?_
    exact ge_aret (post := po_c_shapeOf cI cB cZ K 8) (w' := []) hx hb hr (Or.inl ⟨_, rfl⟩) hlk hK hP hD hS (Nat.le_of_ble_eq_true rfl) (Nat.le_of_ble_eq_true rfl) dX6_shapeOf_69 ⟨rfl, rfl⟩
theorem gIx {z fv fvn fv9 x : Int32} {t tn t9 k : Nat} {X : Prop} (h : (z = 0 ∧ t9 = tn ∧ ¬ fv9 = 0) ∨ (z = 1 ∧ t9 = tn + 1 ∧ tn < 500 ∧ nI k = x ∧ fv9 = fvn)) (hf : fvn = fv) (ht : t ≤ tn) (hX : X) : (z = 0 ∧ ¬ fv9 = 0) ∨ (z = 1 ∧ fv9 = fv ∧ t < t9 ∧ X) := by
  rcases h with ⟨a, _, b⟩ | ⟨a, b, _, _, c⟩
  · exact Or.inl ⟨a, b⟩
  · exact Or.inr ⟨a, c.trans hf, by omega, hX⟩