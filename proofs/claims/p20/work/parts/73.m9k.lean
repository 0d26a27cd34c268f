theorem dX9_cured_0 : decode cX9_cured 0 = .ok (.aload_n 0, 1) := by decide +kernel
theorem dX9_cured_1 : decode cX9_cured 1 = .ok (.getfield 224, 3) := by decide +kernel
theorem dX9_cured_11 : decode cX9_cured 11 = .ok (.iload_n 1, 1) := by decide +kernel
theorem dX9_cured_12 : decode cX9_cured 12 = .ok (.aload_n 0, 1) := by decide +kernel
theorem dX9_cured_13 : decode cX9_cured 13 = .ok (.getfield 104, 3) := by decide +kernel
theorem dX9_cured_16 : decode cX9_cured 16 = .ok (.if_icmp .ge 12, 3) := by decide +kernel
theorem dX9_cured_19 : decode cX9_cured 19 = .ok (.aload_n 0, 1) := by decide +kernel
theorem dX9_cured_20 : decode cX9_cured 20 = .ok (.getfield 107, 3) := by decide +kernel
theorem dX9_cured_23 : decode cX9_cured 23 = .ok (.iload_n 1, 1) := by decide +kernel
theorem dX9_cured_24 : decode cX9_cured 24 = .ok (.iaload, 1) := by decide +kernel
theorem dX9_cured_25 : decode cX9_cured 25 = .ok (.goto 4, 3) := by decide +kernel
theorem dX9_cured_28 : decode cX9_cured 28 = .ok (.iconst (-1), 1) := by decide +kernel
theorem dX9_cured_29 : decode cX9_cured 29 = .ok (.ireturn, 1) := by decide +kernel
theorem dX9_cured_4 : decode cX9_cured 4 = .ok (.ifCond .eq 24, 3) := by decide +kernel
theorem dX9_cured_7 : decode cX9_cured 7 = .ok (.iload_n 1, 1) := by decide +kernel
theorem dX9_cured_8 : decode cX9_cured 8 = .ok (.ifCond .lt 20, 3) := by decide +kernel
theorem dX9_findSpots_0 : decode cX9_findSpots 0 = .ok (.aload_n 0, 1) := by decide +kernel
theorem dX9_findSpots_1 : decode cX9_findSpots 1 = .ok (.iconst 0, 1) := by decide +kernel
theorem dX9_findSpots_12 : decode cX9_findSpots 12 = .ok (.iconst 0, 1) := by decide +kernel
theorem dX9_findSpots_13 : decode cX9_findSpots 13 = .ok (.iaload, 1) := by decide +kernel
theorem dX9_findSpots_14 : decode cX9_findSpots 14 = .ok (.if_icmp .ge 52, 3) := by decide +kernel
theorem dX9_findSpots_17 : decode cX9_findSpots 17 = .ok (.iconst 1, 1) := by decide +kernel
theorem dX9_findSpots_18 : decode cX9_findSpots 18 = .ok (.istore_n 2, 1) := by decide +kernel
theorem dX9_findSpots_19 : decode cX9_findSpots 19 = .ok (.iload_n 2, 1) := by decide +kernel
theorem dX9_findSpots_2 : decode cX9_findSpots 2 = .ok (.putfield 381, 3) := by decide +kernel
theorem dX9_findSpots_20 : decode cX9_findSpots 20 = .ok (.aload_n 0, 1) := by decide +kernel
theorem dX9_findSpots_21 : decode cX9_findSpots 21 = .ok (.getfield 13, 3) := by decide +kernel
theorem dX9_findSpots_24 : decode cX9_findSpots 24 = .ok (.iload_n 1, 1) := by decide +kernel
theorem dX9_findSpots_25 : decode cX9_findSpots 25 = .ok (.iaload, 1) := by decide +kernel
theorem dX9_findSpots_26 : decode cX9_findSpots 26 = .ok (.if_icmp .ge 34, 3) := by decide +kernel
theorem dX9_findSpots_29 : decode cX9_findSpots 29 = .ok (.aload_n 0, 1) := by decide +kernel
theorem dX9_findSpots_30 : decode cX9_findSpots 30 = .ok (.getfield 110, 3) := by decide +kernel
theorem dX9_findSpots_33 : decode cX9_findSpots 33 = .ok (.aload_n 0, 1) := by decide +kernel
theorem dX9_findSpots_34 : decode cX9_findSpots 34 = .ok (.getfield 381, 3) := by decide +kernel
theorem dX9_findSpots_37 : decode cX9_findSpots 37 = .ok (.bipush 10, 2) := by decide +kernel
theorem dX9_findSpots_39 : decode cX9_findSpots 39 = .ok (.iload_n 1, 1) := by decide +kernel
theorem dX9_findSpots_40 : decode cX9_findSpots 40 = .ok (.imul, 1) := by decide +kernel
theorem dX9_findSpots_41 : decode cX9_findSpots 41 = .ok (.iload_n 2, 1) := by decide +kernel
theorem dX9_findSpots_42 : decode cX9_findSpots 42 = .ok (.iadd, 1) := by decide +kernel
theorem dX9_findSpots_43 : decode cX9_findSpots 43 = .ok (.iastore, 1) := by decide +kernel
theorem dX9_findSpots_44 : decode cX9_findSpots 44 = .ok (.aload_n 0, 1) := by decide +kernel
theorem dX9_findSpots_45 : decode cX9_findSpots 45 = .ok (.dup, 1) := by decide +kernel
theorem dX9_findSpots_46 : decode cX9_findSpots 46 = .ok (.getfield 381, 3) := by decide +kernel
theorem dX9_findSpots_49 : decode cX9_findSpots 49 = .ok (.iconst 1, 1) := by decide +kernel
theorem dX9_findSpots_5 : decode cX9_findSpots 5 = .ok (.iconst 0, 1) := by decide +kernel
theorem dX9_findSpots_50 : decode cX9_findSpots 50 = .ok (.iadd, 1) := by decide +kernel
theorem dX9_findSpots_51 : decode cX9_findSpots 51 = .ok (.putfield 381, 3) := by decide +kernel
theorem dX9_findSpots_54 : decode cX9_findSpots 54 = .ok (.iinc 2 1, 3) := by decide +kernel
theorem dX9_findSpots_57 : decode cX9_findSpots 57 = .ok (.goto (-38), 3) := by decide +kernel
theorem dX9_findSpots_6 : decode cX9_findSpots 6 = .ok (.istore_n 1, 1) := by decide +kernel
theorem dX9_findSpots_60 : decode cX9_findSpots 60 = .ok (.iinc 1 1, 3) := by decide +kernel
theorem dX9_findSpots_63 : decode cX9_findSpots 63 = .ok (.goto (-56), 3) := by decide +kernel
theorem dX9_findSpots_66 : decode cX9_findSpots 66 = .ok (.return_, 1) := by decide +kernel
theorem dX9_findSpots_7 : decode cX9_findSpots 7 = .ok (.iload_n 1, 1) := by decide +kernel
theorem dX9_findSpots_8 : decode cX9_findSpots 8 = .ok (.aload_n 0, 1) := by decide +kernel
theorem dX9_findSpots_9 : decode cX9_findSpots 9 = .ok (.getfield 7, 3) := by decide +kernel
theorem dX9_isCore_0 : decode cX9_isCore 0 = .ok (.aload_n 0, 1) := by decide +kernel
theorem dX9_isCore_1 : decode cX9_isCore 1 = .ok (.getfield 84, 3) := by decide +kernel
theorem dX9_isCore_11 : decode cX9_isCore 11 = .ok (.iload_n 1, 1) := by decide +kernel
theorem dX9_isCore_12 : decode cX9_isCore 12 = .ok (.aload_n 0, 1) := by decide +kernel
theorem dX9_isCore_13 : decode cX9_isCore 13 = .ok (.getfield 7, 3) := by decide +kernel
theorem dX9_isCore_16 : decode cX9_isCore 16 = .ok (.iconst 0, 1) := by decide +kernel
theorem dX9_isCore_17 : decode cX9_isCore 17 = .ok (.iaload, 1) := by decide +kernel
theorem dX9_isCore_18 : decode cX9_isCore 18 = .ok (.if_icmp .ge 7, 3) := by decide +kernel
theorem dX9_isCore_21 : decode cX9_isCore 21 = .ok (.iconst 1, 1) := by decide +kernel
theorem dX9_isCore_22 : decode cX9_isCore 22 = .ok (.goto 4, 3) := by decide +kernel
theorem dX9_isCore_25 : decode cX9_isCore 25 = .ok (.iconst 0, 1) := by decide +kernel
theorem dX9_isCore_26 : decode cX9_isCore 26 = .ok (.ireturn, 1) := by decide +kernel
theorem dX9_isCore_4 : decode cX9_isCore 4 = .ok (.ifCond .lt 21, 3) := by decide +kernel
theorem dX9_isCore_7 : decode cX9_isCore 7 = .ok (.iload_n 1, 1) := by decide +kernel
theorem dX9_isCore_8 : decode cX9_isCore 8 = .ok (.ifCond .lt 17, 3) := by decide +kernel
theorem dX9_isPut_0 : decode cX9_isPut 0 = .ok (.iload_n 0, 1) := by decide +kernel
theorem dX9_isPut_1 : decode cX9_isPut 1 = .ok (.iload_n 2, 1) := by decide +kernel
theorem dX9_isPut_10 : decode cX9_isPut 10 = .ok (.iconst 1, 1) := by decide +kernel
theorem dX9_isPut_11 : decode cX9_isPut 11 = .ok (.goto 4, 3) := by decide +kernel
theorem dX9_isPut_14 : decode cX9_isPut 14 = .ok (.iconst 0, 1) := by decide +kernel
theorem dX9_isPut_15 : decode cX9_isPut 15 = .ok (.ireturn, 1) := by decide +kernel
theorem dX9_isPut_2 : decode cX9_isPut 2 = .ok (.if_icmp .eq 8, 3) := by decide +kernel
theorem dX9_isPut_5 : decode cX9_isPut 5 = .ok (.iload_n 1, 1) := by decide +kernel
theorem dX9_isPut_6 : decode cX9_isPut 6 = .ok (.iload_n 2, 1) := by decide +kernel
theorem dX9_isPut_7 : decode cX9_isPut 7 = .ok (.if_icmp .ne 7, 3) := by decide +kernel
theorem dX9_memory_0 : decode cX9_memory 0 = .ok (.aload_n 0, 1) := by decide +kernel
theorem dX9_memory_1 : decode cX9_memory 1 = .ok (.getfield 84, 3) := by decide +kernel
theorem dX9_memory_11 : decode cX9_memory 11 = .ok (.iload_n 1, 1) := by decide +kernel
theorem dX9_memory_12 : decode cX9_memory 12 = .ok (.iconst 4, 1) := by decide +kernel
theorem dX9_memory_13 : decode cX9_memory 13 = .ok (.if_icmp .ge 15, 3) := by decide +kernel
theorem dX9_memory_16 : decode cX9_memory 16 = .ok (.aload_n 0, 1) := by decide +kernel
theorem dX9_memory_17 : decode cX9_memory 17 = .ok (.getfield 78, 3) := by decide +kernel
theorem dX9_memory_20 : decode cX9_memory 20 = .ok (.bipush 12, 2) := by decide +kernel
theorem dX9_memory_22 : decode cX9_memory 22 = .ok (.iload_n 1, 1) := by decide +kernel
theorem dX9_memory_23 : decode cX9_memory 23 = .ok (.iadd, 1) := by decide +kernel
theorem dX9_memory_24 : decode cX9_memory 24 = .ok (.iaload, 1) := by decide +kernel
theorem dX9_memory_25 : decode cX9_memory 25 = .ok (.goto 4, 3) := by decide +kernel
theorem dX9_memory_28 : decode cX9_memory 28 = .ok (.iconst 0, 1) := by decide +kernel
theorem dX9_memory_29 : decode cX9_memory 29 = .ok (.ireturn, 1) := by decide +kernel
theorem dX9_memory_4 : decode cX9_memory 4 = .ok (.ifCond .lt 24, 3) := by decide +kernel
theorem dX9_memory_7 : decode cX9_memory 7 = .ok (.iload_n 1, 1) := by decide +kernel
theorem dX9_memory_8 : decode cX9_memory 8 = .ok (.ifCond .lt 20, 3) := by decide +kernel
theorem dX9_next_0 : decode cX9_next 0 = .ok (.aload_n 0, 1) := by decide +kernel
theorem dX9_next_1 : decode cX9_next 1 = .ok (.iload_n 1, 1) := by decide +kernel
theorem dX9_next_12 : decode cX9_next 12 = .ok (.iload_n 1, 1) := by decide +kernel
theorem dX9_next_13 : decode cX9_next 13 = .ok (.iaload, 1) := by decide +kernel
theorem dX9_next_14 : decode cX9_next 14 = .ok (.goto 4, 3) := by decide +kernel
theorem dX9_next_17 : decode cX9_next 17 = .ok (.iconst (-1), 1) := by decide +kernel
theorem dX9_next_18 : decode cX9_next 18 = .ok (.ireturn, 1) := by decide +kernel
theorem dX9_next_2 : decode cX9_next 2 = .ok (.invokevirtual 344, 3) := by decide +kernel
theorem dX9_next_5 : decode cX9_next 5 = .ok (.ifCond .eq 12, 3) := by decide +kernel
theorem dX9_next_8 : decode cX9_next 8 = .ok (.aload_n 0, 1) := by decide +kernel
theorem dX9_next_9 : decode cX9_next 9 = .ok (.getfield 78, 3) := by decide +kernel
theorem dX9_place_0 : decode cX9_place 0 = .ok (.aload_n 0, 1) := by decide +kernel
theorem dX9_place_1 : decode cX9_place 1 = .ok (.getfield 92, 3) := by decide +kernel
theorem dX9_place_4 : decode cX9_place 4 = .ok (.ireturn, 1) := by decide +kernel
theorem dX9_register__0 : decode cX9_register_ 0 = .ok (.aload_n 0, 1) := by decide +kernel
theorem dX9_register__1 : decode cX9_register_ 1 = .ok (.iload_n 1, 1) := by decide +kernel
theorem dX9_register__12 : decode cX9_register_ 12 = .ok (.iload_n 2, 1) := by decide +kernel
theorem dX9_register__13 : decode cX9_register_ 13 = .ok (.iconst 3, 1) := by decide +kernel
theorem dX9_register__14 : decode cX9_register_ 14 = .ok (.if_icmp .ge 18, 3) := by decide +kernel
theorem dX9_register__17 : decode cX9_register_ 17 = .ok (.aload_n 0, 1) := by decide +kernel
theorem dX9_register__18 : decode cX9_register_ 18 = .ok (.getfield 78, 3) := by decide +kernel
theorem dX9_register__2 : decode cX9_register_ 2 = .ok (.invokevirtual 344, 3) := by decide +kernel
theorem dX9_register__21 : decode cX9_register_ 21 = .ok (.iconst 3, 1) := by decide +kernel
theorem dX9_register__22 : decode cX9_register_ 22 = .ok (.iconst 3, 1) := by decide +kernel
theorem dX9_register__23 : decode cX9_register_ 23 = .ok (.iload_n 1, 1) := by decide +kernel
theorem dX9_register__24 : decode cX9_register_ 24 = .ok (.imul, 1) := by decide +kernel
theorem dX9_register__25 : decode cX9_register_ 25 = .ok (.iadd, 1) := by decide +kernel
theorem dX9_register__26 : decode cX9_register_ 26 = .ok (.iload_n 2, 1) := by decide +kernel
theorem dX9_register__27 : decode cX9_register_ 27 = .ok (.iadd, 1) := by decide +kernel
theorem dX9_register__28 : decode cX9_register_ 28 = .ok (.iaload, 1) := by decide +kernel
theorem dX9_register__29 : decode cX9_register_ 29 = .ok (.goto 4, 3) := by decide +kernel
theorem dX9_register__32 : decode cX9_register_ 32 = .ok (.iconst 0, 1) := by decide +kernel
theorem dX9_register__33 : decode cX9_register_ 33 = .ok (.ireturn, 1) := by decide +kernel
theorem dX9_register__5 : decode cX9_register_ 5 = .ok (.ifCond .eq 27, 3) := by decide +kernel
theorem dX9_register__8 : decode cX9_register_ 8 = .ok (.iload_n 2, 1) := by decide +kernel
theorem dX9_register__9 : decode cX9_register_ 9 = .ok (.ifCond .lt 23, 3) := by decide +kernel
theorem dX9_store_0 : decode cX9_store 0 = .ok (.aload_n 0, 1) := by decide +kernel
theorem dX9_store_1 : decode cX9_store 1 = .ok (.iload_n 1, 1) := by decide +kernel
theorem dX9_store_12 : decode cX9_store 12 = .ok (.iload_n 2, 1) := by decide +kernel
theorem dX9_store_13 : decode cX9_store 13 = .ok (.aload_n 0, 1) := by decide +kernel
theorem dX9_store_14 : decode cX9_store 14 = .ok (.getfield 78, 3) := by decide +kernel
theorem dX9_store_17 : decode cX9_store 17 = .ok (.iload_n 1, 1) := by decide +kernel
theorem dX9_store_18 : decode cX9_store 18 = .ok (.invokestatic 267, 3) := by decide +kernel
theorem dX9_store_2 : decode cX9_store 2 = .ok (.invokevirtual 344, 3) := by decide +kernel
theorem dX9_store_21 : decode cX9_store 21 = .ok (.iaload, 1) := by decide +kernel
theorem dX9_store_22 : decode cX9_store 22 = .ok (.if_icmp .ge 12, 3) := by decide +kernel
theorem dX9_store_25 : decode cX9_store 25 = .ok (.iload_n 3, 1) := by decide +kernel
theorem dX9_store_26 : decode cX9_store 26 = .ok (.ifCond .lt 8, 3) := by decide +kernel
theorem dX9_store_29 : decode cX9_store 29 = .ok (.iload_n 3, 1) := by decide +kernel
theorem dX9_store_30 : decode cX9_store 30 = .ok (.iconst 1, 1) := by decide +kernel
theorem dX9_store_31 : decode cX9_store 31 = .ok (.if_icmp .le 5, 3) := by decide +kernel
theorem dX9_store_34 : decode cX9_store 34 = .ok (.iconst (-1), 1) := by decide +kernel
theorem dX9_store_35 : decode cX9_store 35 = .ok (.ireturn, 1) := by decide +kernel
theorem dX9_store_36 : decode cX9_store 36 = .ok (.aload_n 0, 1) := by decide +kernel
theorem dX9_store_37 : decode cX9_store 37 = .ok (.getfield 78, 3) := by decide +kernel
theorem dX9_store_40 : decode cX9_store 40 = .ok (.iload_n 1, 1) := by decide +kernel
theorem dX9_store_41 : decode cX9_store 41 = .ok (.invokestatic 267, 3) := by decide +kernel
theorem dX9_store_44 : decode cX9_store 44 = .ok (.iconst 1, 1) := by decide +kernel
theorem dX9_store_45 : decode cX9_store 45 = .ok (.iadd, 1) := by decide +kernel
theorem dX9_store_46 : decode cX9_store 46 = .ok (.iconst 2, 1) := by decide +kernel
theorem dX9_store_47 : decode cX9_store 47 = .ok (.iload_n 2, 1) := by decide +kernel
theorem dX9_store_48 : decode cX9_store 48 = .ok (.imul, 1) := by decide +kernel
theorem dX9_store_49 : decode cX9_store 49 = .ok (.iadd, 1) := by decide +kernel
theorem dX9_store_5 : decode cX9_store 5 = .ok (.ifCond .eq 29, 3) := by decide +kernel
theorem dX9_store_50 : decode cX9_store 50 = .ok (.iload_n 3, 1) := by decide +kernel
theorem dX9_store_51 : decode cX9_store 51 = .ok (.iadd, 1) := by decide +kernel
theorem dX9_store_52 : decode cX9_store 52 = .ok (.iaload, 1) := by decide +kernel
theorem dX9_store_53 : decode cX9_store 53 = .ok (.ireturn, 1) := by decide +kernel
theorem dX9_store_8 : decode cX9_store 8 = .ok (.iload_n 2, 1) := by decide +kernel
theorem dX9_store_9 : decode cX9_store 9 = .ok (.ifCond .lt 25, 3) := by decide +kernel
def wsP_c_findSpots9 : List Cond := .code yX9_findSpots cX9_findSpots 3 none :: (([.fieldLink RX9 381 "LitmusHallModel" "spots" "I", .fieldLink RX9 7 "LitmusHallModel" "cores" "[I", .fieldLink RX9 13 "LitmusHallModel" "many" "[I", .fieldLink RX9 110 "LitmusHallModel" "spot" "[I"] ++ wsX90) ++ [])
theorem gW_c_findSpots9 : wsP_c_findSpots9.all goodWord = true := by unfold wsP_c_findSpots9; exact gw_mk (by decide +kernel) rfl
set_option maxHeartbeats 4000000 in
set_option maxRecDepth 100000 in
theorem c_findSpots9 (l : Launch) (D : va_G) (cI cB cZ : ClassId) (h0 : Nat) (a0 : Nat) (a1 : Nat) (a49 : Nat) (v2 : Value) (v3 : Value) (v4 : Value) (v5 : Value) (v6 : Value) (v7 : Value) (v8 : Value) (v9 : Value) (v10 : Value) (v11 : Value) (v12 : Value) (v13 : Value) (v14 : Value) (v15 : Value) (v16 : Value) (v17 : Value) (v18 : Value) (v19 : Value) (v20 : Value) (v21 : Value) (v22 : Value) (v23 : Value) (v24 : Value) (v25 : Value) (v26 : Value) (v27 : Value) (v28 : Value) (v29 : Value) (v30 : Value) (v31 : Value) (v32 : Value) (v33 : Value) (v34 : Value) (v35 : Value) (v36 : Value) (v37 : Value) (v38 : Value) (v39 : Value) (v40 : Value) (v41 : Value) (v42 : Value) (v43 : Value) (v44 : Value) (v45 : Value) (v46 : Value) (v47 : Value) (v48 : Value) (v51 : Value) (C : Nat → Nat) (Mn : Nat → Nat) (sp : Nat → Int32) (so : Int32) (hC : ∀ j, j < 3 → C j ≤ 3) (hMn : ∀ j, j < 3 → Mn j ≤ 6) : gMv l yX9_findSpots wsP_c_findSpots9 ({ frames := 0, cells := 0, slots := 0, locals := 0 }) D cI cB cZ [] [.ref h0] [(h0, .inr (9, [.ref a0, .ref a1, v2, v3, v4, v5, v6, v7, v8, v9, v10, v11, v12, v13, v14, v15, v16, v17, v18, v19, v20, v21, v22, v23, v24, v25, v26, v27, v28, v29, v30, v31, v32, v33, v34, v35, v36, v37, v38, v39, v40, v41, v42, v43, v44, v45, v46, v47, v48, .ref a49, .int so, v51])), (a0, .inl (cI, 3, .inl (fun j => nI (C j)))), (a1, .inl (cI, 9, .inl (fun j => nI (Mn j)))), (a49, .inl (cI, 16, .inl sp))] (fun w9 => ∃ sp9 : Nat → Int32, ∃ so9 : Nat, (so9 ≤ 15) ∧ w9 = [(h0, .inr (9, [.ref a0, .ref a1, v2, v3, v4, v5, v6, v7, v8, v9, v10, v11, v12, v13, v14, v15, v16, v17, v18, v19, v20, v21, v22, v23, v24, v25, v26, v27, v28, v29, v30, v31, v32, v33, v34, v35, v36, v37, v38, v39, v40, v41, v42, v43, v44, v45, v46, v47, v48, .ref a49, .int (nI so9), v51])), (a0, .inl (cI, 3, .inl (fun j => nI (C j)))), (a1, .inl (cI, 9, .inl (fun j => nI (Mn j)))), (a49, .inl (cI, 16, .inl sp9))]) := by
  refine gMv.of (cc := cX9_findSpots) (maxL := 3) (ret := none) (by decide) rfl (Nat.le_of_ble_eq_true rfl) (fun p e s m below meth c A ls hx hb hr hlk hml hts hown hin hA hP hK hD hS hN hl => ?_)
  have hown : s.vm.findClass RX9 = some m.cls := hown
  have hl : lv_has ls 3 [(0, .ref h0)] := hl
  refine lv_aload_n hx hb dX9_findSpots_0 rfl (lv_at hl 0 rfl) ?_
  refine lv_iconst (v := 0) hx hb dX9_findSpots_1 (by decide) ?_
  refine va_put (D := D) (ci := 9) (v := .int 0) (ty := .int) (C := RX9) (T := TX9) (N := 52) hx hb hts (fun _ h => List.mem_cons_of_mem _ (List.mem_append_left _ (List.mem_append_right _ h))) tyX9 tyX9_ok nmX9 hown hK hP hD hS 0 rfl rfl 50 (by decide) (hts (.fieldLink RX9 381 "LitmusHallModel" "spots" "I") (by decide +kernel)) (fun _ h9 => h9) rfl (by decide +kernel) rfl rfl (Nat.le_of_ble_eq_true rfl) dX9_findSpots_2 (fun H locs hP hD hS => ?_)
  have hP : va_P D vwCl [(h0, .inr (9, [.ref a0, .ref a1, v2, v3, v4, v5, v6, v7, v8, v9, v10, v11, v12, v13, v14, v15, v16, v17, v18, v19, v20, v21, v22, v23, v24, v25, v26, v27, v28, v29, v30, v31, v32, v33, v34, v35, v36, v37, v38, v39, v40, v41, v42, v43, v44, v45, v46, v47, v48, .ref a49, .int 0, v51])), (a0, .inl (cI, 3, .inl (fun j => nI (C j)))), (a1, .inl (cI, 9, .inl (fun j => nI (Mn j)))), (a49, .inl (cI, 16, .inl sp))] H := hP
  have hD : va_D A [(h0, .inr (9, [.ref a0, .ref a1, v2, v3, v4, v5, v6, v7, v8, v9, v10, v11, v12, v13, v14, v15, v16, v17, v18, v19, v20, v21, v22, v23, v24, v25, v26, v27, v28, v29, v30, v31, v32, v33, v34, v35, v36, v37, v38, v39, v40, v41, v42, v43, v44, v45, v46, v47, v48, .ref a49, .int 0, v51])), (a0, .inl (cI, 3, .inl (fun j => nI (C j)))), (a1, .inl (cI, 9, .inl (fun j => nI (Mn j)))), (a49, .inl (cI, 16, .inl sp))] := hD
  refine lv_iconst (v := 0) hx hb dX9_findSpots_5 (by decide) ?_
  refine lv_istore_n (lv' := [(1, .int 0), (0, .ref h0)]) hx hb dX9_findSpots_6 rfl hl (by decide) rfl (fun ls hl => ?_)
  refine gy_loop0 (I := fun (x9 : Nat × Nat × (Nat → Int32)) H locs ls => (x9.1 ≤ 3) ∧ (x9.2.1 ≤ 5 * x9.1) ∧ va_P D vwCl [(h0, .inr (9, [.ref a0, .ref a1, v2, v3, v4, v5, v6, v7, v8, v9, v10, v11, v12, v13, v14, v15, v16, v17, v18, v19, v20, v21, v22, v23, v24, v25, v26, v27, v28, v29, v30, v31, v32, v33, v34, v35, v36, v37, v38, v39, v40, v41, v42, v43, v44, v45, v46, v47, v48, .ref a49, .int (nI x9.2.1), v51])), (a0, .inl (cI, 3, .inl (fun j => nI (C j)))), (a1, .inl (cI, 9, .inl (fun j => nI (Mn j)))), (a49, .inl (cI, 16, .inl x9.2.2))] H ∧ va_D A [(h0, .inr (9, [.ref a0, .ref a1, v2, v3, v4, v5, v6, v7, v8, v9, v10, v11, v12, v13, v14, v15, v16, v17, v18, v19, v20, v21, v22, v23, v24, v25, v26, v27, v28, v29, v30, v31, v32, v33, v34, v35, v36, v37, v38, v39, v40, v41, v42, v43, v44, v45, v46, v47, v48, .ref a49, .int (nI x9.2.1), v51])), (a0, .inl (cI, 3, .inl (fun j => nI (C j)))), (a1, .inl (cI, 9, .inl (fun j => nI (Mn j)))), (a49, .inl (cI, 16, .inl x9.2.2))] ∧ va_S A s.heap H locs ∧ lv_has ls 3 [(1, .int (nI x9.1)), (0, .ref h0)]) (μ := fun (x9 : Nat × Nat × (Nat → Int32)) => 3 - x9.1) (fun x9 H locs ls hI ih7 => ?_) (0, 0, sp) ⟨(by show 0 ≤ 3; exact Nat.le_of_ble_eq_true rfl), (by show 0 ≤ 5 * 0; exact Nat.le_of_ble_eq_true rfl), hP, hD, hS, lv_sub hl [0, 1] rfl⟩
  obtain ⟨k, t, g⟩ := x9
  obtain ⟨hi7_0, hi7_1, hP, hD, hS, hl⟩ := hI
  have hi7_0 : k ≤ 3 := hi7_0
  have hi7_1 : t ≤ 5 * k := hi7_1
  have hP : va_P D vwCl [(h0, .inr (9, [.ref a0, .ref a1, v2, v3, v4, v5, v6, v7, v8, v9, v10, v11, v12, v13, v14, v15, v16, v17, v18, v19, v20, v21, v22, v23, v24, v25, v26, v27, v28, v29, v30, v31, v32, v33, v34, v35, v36, v37, v38, v39, v40, v41, v42, v43, v44, v45, v46, v47, v48, .ref a49, .int (nI t), v51])), (a0, .inl (cI, 3, .inl (fun j => nI (C j)))), (a1, .inl (cI, 9, .inl (fun j => nI (Mn j)))), (a49, .inl (cI, 16, .inl g))] H := hP
  have hD : va_D A [(h0, .inr (9, [.ref a0, .ref a1, v2, v3, v4, v5, v6, v7, v8, v9, v10, v11, v12, v13, v14, v15, v16, v17, v18, v19, v20, v21, v22, v23, v24, v25, v26, v27, v28, v29, v30, v31, v32, v33, v34, v35, v36, v37, v38, v39, v40, v41, v42, v43, v44, v45, v46, v47, v48, .ref a49, .int (nI t), v51])), (a0, .inl (cI, 3, .inl (fun j => nI (C j)))), (a1, .inl (cI, 9, .inl (fun j => nI (Mn j)))), (a49, .inl (cI, 16, .inl g))] := hD
  have hS : va_S A s.heap H locs := hS
  have hl : lv_has ls 3 [(1, .int (nI k)), (0, .ref h0)] := hl
  refine lv_iload_n hx hb dX9_findSpots_7 rfl (lv_at hl 0 rfl) ?_
  refine lv_aload_n hx hb dX9_findSpots_8 rfl (lv_at hl 1 rfl) ?_
  refine va_get (D := D) (ci := 9) (v := .ref a0) (C := RX9) (T := TX9) (N := 52) hx hb hts (fun _ h => List.mem_cons_of_mem _ (List.mem_append_left _ (List.mem_append_right _ h))) hown hK hP 0 rfl rfl 0 (by decide) (hts (.fieldLink RX9 7 "LitmusHallModel" "cores" "[I") (by decide +kernel)) (fun _ h9 => h9) rfl dX9_findSpots_9 ?_
  refine lv_iconst (v := 0) hx hb dX9_findSpots_12 (by decide) ?_
  refine gy_ild (i := 0) hx hb hK hP 1 rfl (by omega) (by omega) dX9_findSpots_13 ?_
  refine gx_top (y := nI (C 0)) rfl ?_
  have hC0 := hC 0 (by omega)
  refine gy_ge (a := k) (b := (C 0)) (tgt := 66) hx hb (by omega) (by omega) dX9_findSpots_14 (by decide) (fun c_1 => ?_) (fun c_1 => ?_)
  · exact gx_vret (w' := [(h0, .inr (9, [.ref a0, .ref a1, v2, v3, v4, v5, v6, v7, v8, v9, v10, v11, v12, v13, v14, v15, v16, v17, v18, v19, v20, v21, v22, v23, v24, v25, v26, v27, v28, v29, v30, v31, v32, v33, v34, v35, v36, v37, v38, v39, v40, v41, v42, v43, v44, v45, v46, v47, v48, .ref a49, .int (nI t), v51])), (a0, .inl (cI, 3, .inl (fun j => nI (C j)))), (a1, .inl (cI, 9, .inl (fun j => nI (Mn j)))), (a49, .inl (cI, 16, .inl g))]) hx hb hr hlk hK hP hD hS (Nat.le_of_ble_eq_true rfl) (Nat.le_of_ble_eq_true rfl) dX9_findSpots_66 ⟨g, t, (by omega), rfl⟩
  · refine lv_iconst (v := 1) hx hb dX9_findSpots_17 (by decide) ?_
    refine lv_istore_n (lv' := [(2, .int 1), (1, .int (nI k)), (0, .ref h0)]) hx hb dX9_findSpots_18 rfl hl (by decide) rfl (fun ls hl => ?_)
    refine gy_loop0 (I := fun (x9 : Nat × Nat × (Nat → Int32)) H locs ls => (1 ≤ x9.1) ∧ (x9.2.1 + 1 ≤ 5 * k + x9.1) ∧ (x9.1 ≤ 6) ∧ va_P D vwCl [(h0, .inr (9, [.ref a0, .ref a1, v2, v3, v4, v5, v6, v7, v8, v9, v10, v11, v12, v13, v14, v15, v16, v17, v18, v19, v20, v21, v22, v23, v24, v25, v26, v27, v28, v29, v30, v31, v32, v33, v34, v35, v36, v37, v38, v39, v40, v41, v42, v43, v44, v45, v46, v47, v48, .ref a49, .int (nI x9.2.1), v51])), (a0, .inl (cI, 3, .inl (fun j => nI (C j)))), (a1, .inl (cI, 9, .inl (fun j => nI (Mn j)))), (a49, .inl (cI, 16, .inl x9.2.2))] H ∧ va_D A [(h0, .inr (9, [.ref a0, .ref a1, v2, v3, v4, v5, v6, v7, v8, v9, v10, v11, v12, v13, v14, v15, v16, v17, v18, v19, v20, v21, v22, v23, v24, v25, v26, v27, v28, v29, v30, v31, v32, v33, v34, v35, v36, v37, v38, v39, v40, v41, v42, v43, v44, v45, v46, v47, v48, .ref a49, .int (nI x9.2.1), v51])), (a0, .inl (cI, 3, .inl (fun j => nI (C j)))), (a1, .inl (cI, 9, .inl (fun j => nI (Mn j)))), (a49, .inl (cI, 16, .inl x9.2.2))] ∧ va_S A s.heap H locs ∧ lv_has ls 3 [(2, .int (nI x9.1)), (1, .int (nI k)), (0, .ref h0)]) (μ := fun (x9 : Nat × Nat × (Nat → Int32)) => 6 - x9.1) (fun x9 H locs ls hI ih19 => ?_) (1, t, g) ⟨(by show 1 ≤ 1; exact Nat.le_of_ble_eq_true rfl), (by show t + 1 ≤ 5 * k + 1; omega), (by show 1 ≤ 6; exact Nat.le_of_ble_eq_true rfl), hP, hD, hS, lv_sub hl [0, 1, 2] rfl⟩
    obtain ⟨i, t2, g2⟩ := x9
    obtain ⟨hi19_0, hi19_1, hi19_2, hP, hD, hS, hl⟩ := hI
    have hi19_0 : 1 ≤ i := hi19_0
    have hi19_1 : t2 + 1 ≤ 5 * k + i := hi19_1
    have hi19_2 : i ≤ 6 := hi19_2
    have hP : va_P D vwCl [(h0, .inr (9, [.ref a0, .ref a1, v2, v3, v4, v5, v6, v7, v8, v9, v10, v11, v12, v13, v14, v15, v16, v17, v18, v19, v20, v21, v22, v23, v24, v25, v26, v27, v28, v29, v30, v31, v32, v33, v34, v35, v36, v37, v38, v39, v40, v41, v42, v43, v44, v45, v46, v47, v48, .ref a49, .int (nI t2), v51])), (a0, .inl (cI, 3, .inl (fun j => nI (C j)))), (a1, .inl (cI, 9, .inl (fun j => nI (Mn j)))), (a49, .inl (cI, 16, .inl g2))] H := hP
    have hD : va_D A [(h0, .inr (9, [.ref a0, .ref a1, v2, v3, v4, v5, v6, v7, v8, v9, v10, v11, v12, v13, v14, v15, v16, v17, v18, v19, v20, v21, v22, v23, v24, v25, v26, v27, v28, v29, v30, v31, v32, v33, v34, v35, v36, v37, v38, v39, v40, v41, v42, v43, v44, v45, v46, v47, v48, .ref a49, .int (nI t2), v51])), (a0, .inl (cI, 3, .inl (fun j => nI (C j)))), (a1, .inl (cI, 9, .inl (fun j => nI (Mn j)))), (a49, .inl (cI, 16, .inl g2))] := hD
    have hS : va_S A s.heap H locs := hS
    have hl : lv_has ls 3 [(2, .int (nI i)), (1, .int (nI k)), (0, .ref h0)] := hl
    refine lv_iload_n hx hb dX9_findSpots_19 rfl (lv_at hl 0 rfl) ?_
    refine lv_aload_n hx hb dX9_findSpots_20 rfl (lv_at hl 2 rfl) ?_
    refine va_get (D := D) (ci := 9) (v := .ref a1) (C := RX9) (T := TX9) (N := 52) hx hb hts (fun _ h => List.mem_cons_of_mem _ (List.mem_append_left _ (List.mem_append_right _ h))) hown hK hP 0 rfl rfl 1 (by decide) (hts (.fieldLink RX9 13 "LitmusHallModel" "many" "[I") (by decide +kernel)) (fun _ h9 => h9) rfl dX9_findSpots_21 ?_
    refine lv_iload_n hx hb dX9_findSpots_24 rfl (lv_at hl 1 rfl) ?_
    refine gy_ild (i := k) hx hb hK hP 2 rfl (by omega) (by omega) dX9_findSpots_25 ?_
    refine gx_top (y := nI (Mn k)) rfl ?_
    have hM0 := hMn k (by omega)
    refine gy_ge (a := i) (b := (Mn k)) (tgt := 60) hx hb (by omega) (by omega) dX9_findSpots_26 (by decide) (fun c_2 => ?_) (fun c_2 => ?_)
    · refine lv_iinc (v := nI (k + 1)) (lv' := [(1, .int (nI (k + 1))), (2, .int (nI i)), (0, .ref h0)]) hx hb dX9_findSpots_60 hl (k := 1) rfl (nI_add k 1) (by decide) rfl (fun ls hl => ?_)
      refine lv_goto (tgt := 7) hx hb dX9_findSpots_63 (by decide) ?_
      exact ih7 ((k + 1), t2, g2) H locs ls ⟨(by show (k + 1) ≤ 3; omega), (by show t2 ≤ 5 * (k + 1); omega), hP, hD, hS, lv_sub hl [0, 2] rfl⟩ (by show 3 - (k + 1) < 3 - k; omega)
    · refine lv_aload_n hx hb dX9_findSpots_29 rfl (lv_at hl 2 rfl) ?_
      refine va_get (D := D) (ci := 9) (v := .ref a49) (C := RX9) (T := TX9) (N := 52) hx hb hts (fun _ h => List.mem_cons_of_mem _ (List.mem_append_left _ (List.mem_append_right _ h))) hown hK hP 0 rfl rfl 49 (by decide) (hts (.fieldLink RX9 110 "LitmusHallModel" "spot" "[I") (by decide +kernel)) (fun _ h9 => h9) rfl dX9_findSpots_30 ?_
      refine lv_aload_n hx hb dX9_findSpots_33 rfl (lv_at hl 2 rfl) ?_
      refine va_get (D := D) (ci := 9) (v := .int (nI t2)) (C := RX9) (T := TX9) (N := 52) hx hb hts (fun _ h => List.mem_cons_of_mem _ (List.mem_append_left _ (List.mem_append_right _ h))) hown hK hP 0 rfl rfl 50 (by decide) (hts (.fieldLink RX9 381 "LitmusHallModel" "spots" "I") (by decide +kernel)) (fun _ h9 => h9) rfl dX9_findSpots_34 ?_
      refine lv_bipush (v := 10) hx hb dX9_findSpots_37 (by decide) ?_
      refine lv_iload_n hx hb dX9_findSpots_39 rfl (lv_at hl 1 rfl) ?_
      refine lv_imul hx hb dX9_findSpots_40 ?_
      refine gx_top (y := nI (10 * k)) (pk_mul 10 k) ?_
      refine lv_iload_n hx hb dX9_findSpots_41 rfl (lv_at hl 0 rfl) ?_
      refine lv_iadd hx hb dX9_findSpots_42 ?_
      refine gx_top (y := nI ((10 * k) + i)) (nI_add (10 * k) i) ?_
      refine gy_ist (i := t2) hx hb hK hP hD hS 3 rfl (by omega) (by omega) dX9_findSpots_43 (fun H locs hP hD hS => ?_)
      have hP : va_P D vwCl [(h0, .inr (9, [.ref a0, .ref a1, v2, v3, v4, v5, v6, v7, v8, v9, v10, v11, v12, v13, v14, v15, v16, v17, v18, v19, v20, v21, v22, v23, v24, v25, v26, v27, v28, v29, v30, v31, v32, v33, v34, v35, v36, v37, v38, v39, v40, v41, v42, v43, v44, v45, v46, v47, v48, .ref a49, .int (nI t2), v51])), (a0, .inl (cI, 3, .inl (fun j => nI (C j)))), (a1, .inl (cI, 9, .inl (fun j => nI (Mn j)))), (a49, .inl (cI, 16, .inl (upd g2 t2 (nI ((10 * k) + i)))))] H := hP
      have hD : va_D A [(h0, .inr (9, [.ref a0, .ref a1, v2, v3, v4, v5, v6, v7, v8, v9, v10, v11, v12, v13, v14, v15, v16, v17, v18, v19, v20, v21, v22, v23, v24, v25, v26, v27, v28, v29, v30, v31, v32, v33, v34, v35, v36, v37, v38, v39, v40, v41, v42, v43, v44, v45, v46, v47, v48, .ref a49, .int (nI t2), v51])), (a0, .inl (cI, 3, .inl (fun j => nI (C j)))), (a1, .inl (cI, 9, .inl (fun j => nI (Mn j)))), (a49, .inl (cI, 16, .inl (upd g2 t2 (nI ((10 * k) + i)))))] := hD
      refine lv_aload_n hx hb dX9_findSpots_44 rfl (lv_at hl 2 rfl) ?_
      refine lv_dup hx hb dX9_findSpots_45 rfl ?_
      refine va_get (D := D) (ci := 9) (v := .int (nI t2)) (C := RX9) (T := TX9) (N := 52) hx hb hts (fun _ h => List.mem_cons_of_mem _ (List.mem_append_left _ (List.mem_append_right _ h))) hown hK hP 0 rfl rfl 50 (by decide) (hts (.fieldLink RX9 381 "LitmusHallModel" "spots" "I") (by decide +kernel)) (fun _ h9 => h9) rfl dX9_findSpots_46 ?_
      refine lv_iconst (v := 1) hx hb dX9_findSpots_49 (by decide) ?_
      refine lv_iadd hx hb dX9_findSpots_50 ?_
      refine gx_top (y := nI (t2 + 1)) (nI_add t2 1) ?_
      refine va_put (D := D) (ci := 9) (v := .int (nI (t2 + 1))) (ty := .int) (C := RX9) (T := TX9) (N := 52) hx hb hts (fun _ h => List.mem_cons_of_mem _ (List.mem_append_left _ (List.mem_append_right _ h))) tyX9 tyX9_ok nmX9 hown hK hP hD hS 0 rfl rfl 50 (by decide) (hts (.fieldLink RX9 381 "LitmusHallModel" "spots" "I") (by decide +kernel)) (fun _ h9 => h9) rfl (by decide +kernel) rfl rfl (Nat.le_of_ble_eq_true rfl) dX9_findSpots_51 (fun H locs hP hD hS => ?_)
      have hP : va_P D vwCl [(h0, .inr (9, [.ref a0, .ref a1, v2, v3, v4, v5, v6, v7, v8, v9, v10, v11, v12, v13, v14, v15, v16, v17, v18, v19, v20, v21, v22, v23, v24, v25, v26, v27, v28, v29, v30, v31, v32, v33, v34, v35, v36, v37, v38, v39, v40, v41, v42, v43, v44, v45, v46, v47, v48, .ref a49, .int (nI (t2 + 1)), v51])), (a0, .inl (cI, 3, .inl (fun j => nI (C j)))), (a1, .inl (cI, 9, .inl (fun j => nI (Mn j)))), (a49, .inl (cI, 16, .inl (upd g2 t2 (nI ((10 * k) + i)))))] H := hP
      have hD : va_D A [(h0, .inr (9, [.ref a0, .ref a1, v2, v3, v4, v5, v6, v7, v8, v9, v10, v11, v12, v13, v14, v15, v16, v17, v18, v19, v20, v21, v22, v23, v24, v25, v26, v27, v28, v29, v30, v31, v32, v33, v34, v35, v36, v37, v38, v39, v40, v41, v42, v43, v44, v45, v46, v47, v48, .ref a49, .int (nI (t2 + 1)), v51])), (a0, .inl (cI, 3, .inl (fun j => nI (C j)))), (a1, .inl (cI, 9, .inl (fun j => nI (Mn j)))), (a49, .inl (cI, 16, .inl (upd g2 t2 (nI ((10 * k) + i)))))] := hD
      refine lv_iinc (v := nI (i + 1)) (lv' := [(2, .int (nI (i + 1))), (1, .int (nI k)), (0, .ref h0)]) hx hb dX9_findSpots_54 hl (k := 0) rfl (nI_add i 1) (by decide) rfl (fun ls hl => ?_)
      refine lv_goto (tgt := 19) hx hb dX9_findSpots_57 (by decide) ?_
      exact ih19 ((i + 1), (t2 + 1), (upd g2 t2 (nI ((10 * k) + i)))) H locs ls ⟨(by show 1 ≤ (i + 1); omega), (by show (t2 + 1) + 1 ≤ 5 * k + (i + 1); omega), (by show (i + 1) ≤ 6; omega), hP, hD, hS, lv_sub hl [0, 1, 2] rfl⟩ (by show 6 - (i + 1) < 6 - i; omega)
def wsP_c_cured9 : List Cond := .code yX9_cured cX9_cured 2 (some .int) :: (([.fieldLink RX9 224 "LitmusHallModel" "isProgram" "Z", .fieldLink RX9 104 "LitmusHallModel" "cureMany" "I", .fieldLink RX9 107 "LitmusHallModel" "cure" "[I"] ++ wsX90) ++ [])
set_option maxHeartbeats 4000000 in
set_option maxRecDepth 100000 in
theorem c_cured9 (l : Launch) (D : va_G) (cI cB cZ : ClassId) (h0 : Nat) (a48 : Nat) (v0 : Value) (v1 : Value) (v2 : Value) (v3 : Value) (v4 : Value) (v5 : Value) (v6 : Value) (v7 : Value) (v8 : Value) (v9 : Value) (v10 : Value) (v12 : Value) (v13 : Value) (v14 : Value) (v15 : Value) (v16 : Value) (v17 : Value) (v18 : Value) (v19 : Value) (v20 : Value) (v21 : Value) (v22 : Value) (v23 : Value) (v24 : Value) (v25 : Value) (v26 : Value) (v27 : Value) (v28 : Value) (v29 : Value) (v30 : Value) (v31 : Value) (v32 : Value) (v33 : Value) (v34 : Value) (v35 : Value) (v36 : Value) (v37 : Value) (v38 : Value) (v39 : Value) (v40 : Value) (v41 : Value) (v42 : Value) (v43 : Value) (v44 : Value) (v45 : Value) (v46 : Value) (v49 : Value) (v50 : Value) (v51 : Value) (ip : Int32) (cm : Int32) (cu : Nat → Int32) (x : Int32) (hcm : cm = (-1) ∨ ∃ q, q ≤ 2 ∧ cm = nI q) : gMi l yX9_cured wsP_c_cured9 ({ frames := 0, cells := 0, slots := 0, locals := 0 }) D cI cB cZ [] [.ref h0, .int x] [(h0, .inr (9, [v0, v1, v2, v3, v4, v5, v6, v7, v8, v9, v10, .int ip, v12, v13, v14, v15, v16, v17, v18, v19, v20, v21, v22, v23, v24, v25, v26, v27, v28, v29, v30, v31, v32, v33, v34, v35, v36, v37, v38, v39, v40, v41, v42, v43, v44, v45, v46, .int cm, .ref a48, v49, v50, v51])), (a48, .inl (cI, 2, .inl cu))] (fun r9 w9 => ∃ z : Int32, r9 = z ∧ w9 = [(h0, .inr (9, [v0, v1, v2, v3, v4, v5, v6, v7, v8, v9, v10, .int ip, v12, v13, v14, v15, v16, v17, v18, v19, v20, v21, v22, v23, v24, v25, v26, v27, v28, v29, v30, v31, v32, v33, v34, v35, v36, v37, v38, v39, v40, v41, v42, v43, v44, v45, v46, .int cm, .ref a48, v49, v50, v51])), (a48, .inl (cI, 2, .inl cu))]) := by
  refine gMi.of (cc := cX9_cured) (maxL := 2) (ret := (some .int)) (by decide) rfl (Nat.le_of_ble_eq_true rfl) (fun p e s m below meth c A ls hx hb hr hlk hml hts hown hin hA hP hK hD hS hN hl => ?_)
  have hown : s.vm.findClass RX9 = some m.cls := hown
  have hl : lv_has ls 2 [(0, .ref h0), (1, .int x)] := hl
  refine lv_aload_n hx hb dX9_cured_0 rfl (lv_at hl 0 rfl) ?_
  refine va_get (D := D) (ci := 9) (v := .int ip) (C := RX9) (T := TX9) (N := 52) hx hb hts (fun _ h => List.mem_cons_of_mem _ (List.mem_append_left _ (List.mem_append_right _ h))) hown hK hP 0 rfl rfl 11 (by decide) (hts (.fieldLink RX9 224 "LitmusHallModel" "isProgram" "Z") (by decide +kernel)) (fun _ h9 => h9) rfl dX9_cured_1 ?_
  refine lv_if_eq (tgt := 28) hx hb dX9_cured_4 (by decide) (fun c_1 => ?_) (fun c_1 => ?_)
  · refine lv_iconst (v := (-1)) hx hb dX9_cured_28 (by decide) ?_
    exact gx_iret (w' := [(h0, .inr (9, [v0, v1, v2, v3, v4, v5, v6, v7, v8, v9, v10, .int ip, v12, v13, v14, v15, v16, v17, v18, v19, v20, v21, v22, v23, v24, v25, v26, v27, v28, v29, v30, v31, v32, v33, v34, v35, v36, v37, v38, v39, v40, v41, v42, v43, v44, v45, v46, .int cm, .ref a48, v49, v50, v51])), (a48, .inl (cI, 2, .inl cu))]) hx hb hr hlk hK hP hD hS (Nat.le_of_ble_eq_true rfl) (Nat.le_of_ble_eq_true rfl) dX9_cured_29 ⟨(-1), rfl, rfl⟩
  · refine lv_iload_n hx hb dX9_cured_7 rfl (lv_at hl 1 rfl) ?_
    refine lv_if_lt (tgt := 28) hx hb dX9_cured_8 (by decide) (fun c_2 => ?_) (fun c_2 => ?_)
    · refine lv_iconst (v := (-1)) hx hb dX9_cured_28 (by decide) ?_
      exact gx_iret (w' := [(h0, .inr (9, [v0, v1, v2, v3, v4, v5, v6, v7, v8, v9, v10, .int ip, v12, v13, v14, v15, v16, v17, v18, v19, v20, v21, v22, v23, v24, v25, v26, v27, v28, v29, v30, v31, v32, v33, v34, v35, v36, v37, v38, v39, v40, v41, v42, v43, v44, v45, v46, .int cm, .ref a48, v49, v50, v51])), (a48, .inl (cI, 2, .inl cu))]) hx hb hr hlk hK hP hD hS (Nat.le_of_ble_eq_true rfl) (Nat.le_of_ble_eq_true rfl) dX9_cured_29 ⟨(-1), rfl, rfl⟩
    · refine lv_iload_n hx hb dX9_cured_11 rfl (lv_at hl 1 rfl) ?_
      refine lv_aload_n hx hb dX9_cured_12 rfl (lv_at hl 0 rfl) ?_
      refine va_get (D := D) (ci := 9) (v := .int cm) (C := RX9) (T := TX9) (N := 52) hx hb hts (fun _ h => List.mem_cons_of_mem _ (List.mem_append_left _ (List.mem_append_right _ h))) hown hK hP 0 rfl rfl 47 (by decide) (hts (.fieldLink RX9 104 "LitmusHallModel" "cureMany" "I") (by decide +kernel)) (fun _ h9 => h9) rfl dX9_cured_13 ?_
      refine lv_icmp_ge (tgt := 28) hx hb dX9_cured_16 (by decide) (fun c_3 => ?_) (fun c_3 => ?_)
      · refine lv_iconst (v := (-1)) hx hb dX9_cured_28 (by decide) ?_
        exact gx_iret (w' := [(h0, .inr (9, [v0, v1, v2, v3, v4, v5, v6, v7, v8, v9, v10, .int ip, v12, v13, v14, v15, v16, v17, v18, v19, v20, v21, v22, v23, v24, v25, v26, v27, v28, v29, v30, v31, v32, v33, v34, v35, v36, v37, v38, v39, v40, v41, v42, v43, v44, v45, v46, .int cm, .ref a48, v49, v50, v51])), (a48, .inl (cI, 2, .inl cu))]) hx hb hr hlk hK hP hD hS (Nat.le_of_ble_eq_true rfl) (Nat.le_of_ble_eq_true rfl) dX9_cured_29 ⟨(-1), rfl, rfl⟩
      · have hx0 := c_2
        have hx1 := c_3
        obtain ⟨jc, hjc, ec⟩ := hcm.resolve_left (fun e9 => hx1 (by rw [e9]; exact Int32.le_trans (by decide) (Int32.not_lt.mp hx0)))
        obtain ⟨ji, hji, rfl⟩ := gy_lt2 (n := jc) (by omega) hx0 (by rw [← ec]; exact hx1)
        have hl : lv_has ls 2 [(0, .ref h0), (1, .int (nI ji))] := hl
        refine lv_aload_n hx hb dX9_cured_19 rfl (lv_at hl 0 rfl) ?_
        refine va_get (D := D) (ci := 9) (v := .ref a48) (C := RX9) (T := TX9) (N := 52) hx hb hts (fun _ h => List.mem_cons_of_mem _ (List.mem_append_left _ (List.mem_append_right _ h))) hown hK hP 0 rfl rfl 48 (by decide) (hts (.fieldLink RX9 107 "LitmusHallModel" "cure" "[I") (by decide +kernel)) (fun _ h9 => h9) rfl dX9_cured_20 ?_
        refine lv_iload_n hx hb dX9_cured_23 rfl (lv_at hl 1 rfl) ?_
        refine gy_ild (i := ji) hx hb hK hP 1 rfl (by omega) (by omega) dX9_cured_24 ?_
        refine gx_gen (fun z_4 => ?_)
        refine lv_goto (tgt := 29) hx hb dX9_cured_25 (by decide) ?_
        exact gx_iret (w' := [(h0, .inr (9, [v0, v1, v2, v3, v4, v5, v6, v7, v8, v9, v10, .int ip, v12, v13, v14, v15, v16, v17, v18, v19, v20, v21, v22, v23, v24, v25, v26, v27, v28, v29, v30, v31, v32, v33, v34, v35, v36, v37, v38, v39, v40, v41, v42, v43, v44, v45, v46, .int cm, .ref a48, v49, v50, v51])), (a48, .inl (cI, 2, .inl cu))]) hx hb hr hlk hK hP hD hS (Nat.le_of_ble_eq_true rfl) (Nat.le_of_ble_eq_true rfl) dX9_cured_29 ⟨z_4, rfl, rfl⟩
