theorem dX9_began_0 : decode cX9_began 0 = .ok (.lload_n 0, 1) := by decide +kernel
theorem dX9_began_1 : decode cX9_began 1 = .ok (.ldc2_w 199, 3) := by decide +kernel
theorem dX9_began_10 : decode cX9_began 10 = .ok (.lload_n 0, 1) := by decide +kernel
theorem dX9_began_11 : decode cX9_began 11 = .ok (.ldc2_w 201, 3) := by decide +kernel
theorem dX9_began_14 : decode cX9_began 14 = .ok (.lcmp, 1) := by decide +kernel
theorem dX9_began_15 : decode cX9_began 15 = .ok (.ifCond .ne 5, 3) := by decide +kernel
theorem dX9_began_18 : decode cX9_began 18 = .ok (.iconst 1, 1) := by decide +kernel
theorem dX9_began_19 : decode cX9_began 19 = .ok (.ireturn, 1) := by decide +kernel
theorem dX9_began_20 : decode cX9_began 20 = .ok (.lload_n 0, 1) := by decide +kernel
theorem dX9_began_21 : decode cX9_began 21 = .ok (.ldc2_w 203, 3) := by decide +kernel
theorem dX9_began_24 : decode cX9_began 24 = .ok (.lcmp, 1) := by decide +kernel
theorem dX9_began_25 : decode cX9_began 25 = .ok (.ifCond .ne 5, 3) := by decide +kernel
theorem dX9_began_28 : decode cX9_began 28 = .ok (.iconst 2, 1) := by decide +kernel
theorem dX9_began_29 : decode cX9_began 29 = .ok (.ireturn, 1) := by decide +kernel
theorem dX9_began_30 : decode cX9_began 30 = .ok (.lload_n 0, 1) := by decide +kernel
theorem dX9_began_31 : decode cX9_began 31 = .ok (.ldc2_w 205, 3) := by decide +kernel
theorem dX9_began_34 : decode cX9_began 34 = .ok (.lcmp, 1) := by decide +kernel
theorem dX9_began_35 : decode cX9_began 35 = .ok (.ifCond .ne 5, 3) := by decide +kernel
theorem dX9_began_38 : decode cX9_began 38 = .ok (.iconst 3, 1) := by decide +kernel
theorem dX9_began_39 : decode cX9_began 39 = .ok (.ireturn, 1) := by decide +kernel
theorem dX9_began_4 : decode cX9_began 4 = .ok (.lcmp, 1) := by decide +kernel
theorem dX9_began_40 : decode cX9_began 40 = .ok (.lload_n 0, 1) := by decide +kernel
theorem dX9_began_41 : decode cX9_began 41 = .ok (.ldc2_w 207, 3) := by decide +kernel
theorem dX9_began_44 : decode cX9_began 44 = .ok (.lcmp, 1) := by decide +kernel
theorem dX9_began_45 : decode cX9_began 45 = .ok (.ifCond .ne 5, 3) := by decide +kernel
theorem dX9_began_48 : decode cX9_began 48 = .ok (.iconst 4, 1) := by decide +kernel
theorem dX9_began_49 : decode cX9_began 49 = .ok (.ireturn, 1) := by decide +kernel
theorem dX9_began_5 : decode cX9_began 5 = .ok (.ifCond .ne 5, 3) := by decide +kernel
theorem dX9_began_50 : decode cX9_began 50 = .ok (.lload_n 0, 1) := by decide +kernel
theorem dX9_began_51 : decode cX9_began 51 = .ok (.ldc2_w 209, 3) := by decide +kernel
theorem dX9_began_54 : decode cX9_began 54 = .ok (.lcmp, 1) := by decide +kernel
theorem dX9_began_55 : decode cX9_began 55 = .ok (.ifCond .ne 5, 3) := by decide +kernel
theorem dX9_began_58 : decode cX9_began 58 = .ok (.iconst 5, 1) := by decide +kernel
theorem dX9_began_59 : decode cX9_began 59 = .ok (.ireturn, 1) := by decide +kernel
theorem dX9_began_60 : decode cX9_began 60 = .ok (.lload_n 0, 1) := by decide +kernel
theorem dX9_began_61 : decode cX9_began 61 = .ok (.ldc2_w 211, 3) := by decide +kernel
theorem dX9_began_64 : decode cX9_began 64 = .ok (.lcmp, 1) := by decide +kernel
theorem dX9_began_65 : decode cX9_began 65 = .ok (.ifCond .ne 6, 3) := by decide +kernel
theorem dX9_began_68 : decode cX9_began 68 = .ok (.bipush 6, 2) := by decide +kernel
theorem dX9_began_70 : decode cX9_began 70 = .ok (.ireturn, 1) := by decide +kernel
theorem dX9_began_71 : decode cX9_began 71 = .ok (.lload_n 0, 1) := by decide +kernel
theorem dX9_began_72 : decode cX9_began 72 = .ok (.ldc2_w 213, 3) := by decide +kernel
theorem dX9_began_75 : decode cX9_began 75 = .ok (.lcmp, 1) := by decide +kernel
theorem dX9_began_76 : decode cX9_began 76 = .ok (.ifCond .ne 6, 3) := by decide +kernel
theorem dX9_began_79 : decode cX9_began 79 = .ok (.bipush 7, 2) := by decide +kernel
theorem dX9_began_8 : decode cX9_began 8 = .ok (.iconst 0, 1) := by decide +kernel
theorem dX9_began_81 : decode cX9_began 81 = .ok (.ireturn, 1) := by decide +kernel
theorem dX9_began_82 : decode cX9_began 82 = .ok (.lload_n 0, 1) := by decide +kernel
theorem dX9_began_83 : decode cX9_began 83 = .ok (.ldc2_w 215, 3) := by decide +kernel
theorem dX9_began_86 : decode cX9_began 86 = .ok (.lcmp, 1) := by decide +kernel
theorem dX9_began_87 : decode cX9_began 87 = .ok (.ifCond .ne 8, 3) := by decide +kernel
theorem dX9_began_9 : decode cX9_began 9 = .ok (.ireturn, 1) := by decide +kernel
theorem dX9_began_90 : decode cX9_began 90 = .ok (.bipush 8, 2) := by decide +kernel
theorem dX9_began_92 : decode cX9_began 92 = .ok (.goto 4, 3) := by decide +kernel
theorem dX9_began_95 : decode cX9_began 95 = .ok (.iconst (-1), 1) := by decide +kernel
theorem dX9_began_96 : decode cX9_began 96 = .ok (.ireturn, 1) := by decide +kernel
def gBg (w : Int64) : Int32 := if lg_cmp w 1819238756 = 0 then 0 else if lg_cmp w 495874699877 = 0 then 1 else if lg_cmp w 7562612 = 0 then 2 else if lg_cmp w 6382692 = 0 then 3 else if lg_cmp w 439788397413 = 0 then 4 else if lg_cmp w 1937203568 = 0 then 5 else if lg_cmp w 6909539 = 0 then 6 else if lg_cmp w 6513011 = 0 then 7 else if lg_cmp w 26982 = 0 then 8 else (-1)
theorem gBg_in (w : Int64) (h : ¬ gBg w < 0) : ∃ q, q ≤ 8 ∧ gBg w = nI q := by
  unfold gBg at h ⊢
  by_cases h0 : lg_cmp w 1819238756 = 0
  · rw [if_pos h0]; exact ⟨0, by omega, rfl⟩
  by_cases h1 : lg_cmp w 495874699877 = 0
  · rw [if_neg h0, if_pos h1]; exact ⟨1, by omega, rfl⟩
  by_cases h2 : lg_cmp w 7562612 = 0
  · rw [if_neg h0, if_neg h1, if_pos h2]; exact ⟨2, by omega, rfl⟩
  by_cases h3 : lg_cmp w 6382692 = 0
  · rw [if_neg h0, if_neg h1, if_neg h2, if_pos h3]; exact ⟨3, by omega, rfl⟩
  by_cases h4 : lg_cmp w 439788397413 = 0
  · rw [if_neg h0, if_neg h1, if_neg h2, if_neg h3, if_pos h4]; exact ⟨4, by omega, rfl⟩
  by_cases h5 : lg_cmp w 1937203568 = 0
  · rw [if_neg h0, if_neg h1, if_neg h2, if_neg h3, if_neg h4, if_pos h5]; exact ⟨5, by omega, rfl⟩
  by_cases h6 : lg_cmp w 6909539 = 0
  · rw [if_neg h0, if_neg h1, if_neg h2, if_neg h3, if_neg h4, if_neg h5, if_pos h6]; exact ⟨6, by omega, rfl⟩
  by_cases h7 : lg_cmp w 6513011 = 0
  · rw [if_neg h0, if_neg h1, if_neg h2, if_neg h3, if_neg h4, if_neg h5, if_neg h6, if_pos h7]; exact ⟨7, by omega, rfl⟩
  by_cases h8 : lg_cmp w 26982 = 0
  · rw [if_neg h0, if_neg h1, if_neg h2, if_neg h3, if_neg h4, if_neg h5, if_neg h6, if_neg h7, if_pos h8]; exact ⟨8, by omega, rfl⟩
  · rw [if_neg h0, if_neg h1, if_neg h2, if_neg h3, if_neg h4, if_neg h5, if_neg h6, if_neg h7, if_neg h8] at h; exact absurd (by decide) h
def wsP_c_began9 : List Cond := .code yX9_began cX9_began 2 (some .int) :: (([.constantLong RX9 199 (1819238756), .constantLong RX9 201 (495874699877), .constantLong RX9 203 (7562612), .constantLong RX9 205 (6382692), .constantLong RX9 207 (439788397413), .constantLong RX9 209 (1937203568), .constantLong RX9 211 (6909539), .constantLong RX9 213 (6513011), .constantLong RX9 215 (26982)]) ++ [])
theorem gW_c_began9 : wsP_c_began9.all goodWord = true := by unfold wsP_c_began9; exact gw_mk (by decide +kernel) rfl
set_option maxHeartbeats 4000000 in
set_option maxRecDepth 100000 in
theorem c_began9 (l : Launch) (D : va_G) (cI cB cZ : ClassId) (w : Int64)  : gMi l yX9_began wsP_c_began9 ({ frames := 0, cells := 0, slots := 0, locals := 0 }) D cI cB cZ [] [.long w] [] (fun r9 w9 => r9 = (gBg w) ∧ w9 = []) := by
  refine gMi.of (cc := cX9_began) (maxL := 2) (ret := (some .int)) (by decide) rfl (Nat.le_of_ble_eq_true rfl) (fun p e s m below meth c A ls hx hb hr hlk hml hts hown hin hA hP hK hD hS hN hl => ?_)
  have hown : s.vm.findClass RX9 = some m.cls := hown
  have hl : lv_has ls 2 [(0, .long w)] := hl
  refine lv_lload_n hx hb dX9_began_0 rfl (lv_at hl 0 rfl) ?_
  refine lv_ldc2 hx hb hown (hts (.constantLong RX9 199 (1819238756)) (by decide +kernel)) dX9_began_1 ?_
  refine W.lcmp hx hb dX9_began_4 ?_
  refine lv_if_ne (tgt := 10) hx hb dX9_began_5 (by decide) (fun c_1 => ?_) (fun c_1 => ?_)
  · refine lv_lload_n hx hb dX9_began_10 rfl (lv_at hl 0 rfl) ?_
    refine lv_ldc2 hx hb hown (hts (.constantLong RX9 201 (495874699877)) (by decide +kernel)) dX9_began_11 ?_
    refine W.lcmp hx hb dX9_began_14 ?_
    refine lv_if_ne (tgt := 20) hx hb dX9_began_15 (by decide) (fun c_2 => ?_) (fun c_2 => ?_)
    · refine lv_lload_n hx hb dX9_began_20 rfl (lv_at hl 0 rfl) ?_
      refine lv_ldc2 hx hb hown (hts (.constantLong RX9 203 (7562612)) (by decide +kernel)) dX9_began_21 ?_
      refine W.lcmp hx hb dX9_began_24 ?_
      refine lv_if_ne (tgt := 30) hx hb dX9_began_25 (by decide) (fun c_3 => ?_) (fun c_3 => ?_)
      · refine lv_lload_n hx hb dX9_began_30 rfl (lv_at hl 0 rfl) ?_
        refine lv_ldc2 hx hb hown (hts (.constantLong RX9 205 (6382692)) (by decide +kernel)) dX9_began_31 ?_
        refine W.lcmp hx hb dX9_began_34 ?_
        refine lv_if_ne (tgt := 40) hx hb dX9_began_35 (by decide) (fun c_4 => ?_) (fun c_4 => ?_)
        · refine lv_lload_n hx hb dX9_began_40 rfl (lv_at hl 0 rfl) ?_
          refine lv_ldc2 hx hb hown (hts (.constantLong RX9 207 (439788397413)) (by decide +kernel)) dX9_began_41 ?_
          refine W.lcmp hx hb dX9_began_44 ?_
          refine lv_if_ne (tgt := 50) hx hb dX9_began_45 (by decide) (fun c_5 => ?_) (fun c_5 => ?_)
          · refine lv_lload_n hx hb dX9_began_50 rfl (lv_at hl 0 rfl) ?_
            refine lv_ldc2 hx hb hown (hts (.constantLong RX9 209 (1937203568)) (by decide +kernel)) dX9_began_51 ?_
            refine W.lcmp hx hb dX9_began_54 ?_
            refine lv_if_ne (tgt := 60) hx hb dX9_began_55 (by decide) (fun c_6 => ?_) (fun c_6 => ?_)
            · refine lv_lload_n hx hb dX9_began_60 rfl (lv_at hl 0 rfl) ?_
              refine lv_ldc2 hx hb hown (hts (.constantLong RX9 211 (6909539)) (by decide +kernel)) dX9_began_61 ?_
              refine W.lcmp hx hb dX9_began_64 ?_
              refine lv_if_ne (tgt := 71) hx hb dX9_began_65 (by decide) (fun c_7 => ?_) (fun c_7 => ?_)
              · refine lv_lload_n hx hb dX9_began_71 rfl (lv_at hl 0 rfl) ?_
                refine lv_ldc2 hx hb hown (hts (.constantLong RX9 213 (6513011)) (by decide +kernel)) dX9_began_72 ?_
                refine W.lcmp hx hb dX9_began_75 ?_
                refine lv_if_ne (tgt := 82) hx hb dX9_began_76 (by decide) (fun c_8 => ?_) (fun c_8 => ?_)
                · refine lv_lload_n hx hb dX9_began_82 rfl (lv_at hl 0 rfl) ?_
                  refine lv_ldc2 hx hb hown (hts (.constantLong RX9 215 (26982)) (by decide +kernel)) dX9_began_83 ?_
                  refine W.lcmp hx hb dX9_began_86 ?_
                  refine lv_if_ne (tgt := 95) hx hb dX9_began_87 (by decide) (fun c_9 => ?_) (fun c_9 => ?_)
                  · refine lv_iconst (v := (-1)) hx hb dX9_began_95 (by decide) ?_
                    exact gx_iret (w' := []) hx hb hr hlk hK hP hD hS (Nat.le_of_ble_eq_true rfl) (Nat.le_of_ble_eq_true rfl) dX9_began_96 ⟨(by unfold gBg; rw [if_neg c_1, if_neg c_2, if_neg c_3, if_neg c_4, if_neg c_5, if_neg c_6, if_neg c_7, if_neg c_8, if_neg c_9]), rfl⟩
                  · refine lv_bipush (v := 8) hx hb dX9_began_90 (by decide) ?_
                    refine lv_goto (tgt := 96) hx hb dX9_began_92 (by decide) ?_
                    exact gx_iret (w' := []) hx hb hr hlk hK hP hD hS (Nat.le_of_ble_eq_true rfl) (Nat.le_of_ble_eq_true rfl) dX9_began_96 ⟨(by unfold gBg; rw [if_neg c_1, if_neg c_2, if_neg c_3, if_neg c_4, if_neg c_5, if_neg c_6, if_neg c_7, if_neg c_8, if_pos c_9]), rfl⟩
                · refine lv_bipush (v := 7) hx hb dX9_began_79 (by decide) ?_
                  exact gx_iret (w' := []) hx hb hr hlk hK hP hD hS (Nat.le_of_ble_eq_true rfl) (Nat.le_of_ble_eq_true rfl) dX9_began_81 ⟨(by unfold gBg; rw [if_neg c_1, if_neg c_2, if_neg c_3, if_neg c_4, if_neg c_5, if_neg c_6, if_neg c_7, if_pos c_8]), rfl⟩
              · refine lv_bipush (v := 6) hx hb dX9_began_68 (by decide) ?_
                exact gx_iret (w' := []) hx hb hr hlk hK hP hD hS (Nat.le_of_ble_eq_true rfl) (Nat.le_of_ble_eq_true rfl) dX9_began_70 ⟨(by unfold gBg; rw [if_neg c_1, if_neg c_2, if_neg c_3, if_neg c_4, if_neg c_5, if_neg c_6, if_pos c_7]), rfl⟩
            · refine lv_iconst (v := 5) hx hb dX9_began_58 (by decide) ?_
              exact gx_iret (w' := []) hx hb hr hlk hK hP hD hS (Nat.le_of_ble_eq_true rfl) (Nat.le_of_ble_eq_true rfl) dX9_began_59 ⟨(by unfold gBg; rw [if_neg c_1, if_neg c_2, if_neg c_3, if_neg c_4, if_neg c_5, if_pos c_6]), rfl⟩
          · refine lv_iconst (v := 4) hx hb dX9_began_48 (by decide) ?_
            exact gx_iret (w' := []) hx hb hr hlk hK hP hD hS (Nat.le_of_ble_eq_true rfl) (Nat.le_of_ble_eq_true rfl) dX9_began_49 ⟨(by unfold gBg; rw [if_neg c_1, if_neg c_2, if_neg c_3, if_neg c_4, if_pos c_5]), rfl⟩
        · refine lv_iconst (v := 3) hx hb dX9_began_38 (by decide) ?_
          exact gx_iret (w' := []) hx hb hr hlk hK hP hD hS (Nat.le_of_ble_eq_true rfl) (Nat.le_of_ble_eq_true rfl) dX9_began_39 ⟨(by unfold gBg; rw [if_neg c_1, if_neg c_2, if_neg c_3, if_pos c_4]), rfl⟩
      · refine lv_iconst (v := 2) hx hb dX9_began_28 (by decide) ?_
        exact gx_iret (w' := []) hx hb hr hlk hK hP hD hS (Nat.le_of_ble_eq_true rfl) (Nat.le_of_ble_eq_true rfl) dX9_began_29 ⟨(by unfold gBg; rw [if_neg c_1, if_neg c_2, if_pos c_3]), rfl⟩
    · refine lv_iconst (v := 1) hx hb dX9_began_18 (by decide) ?_
      exact gx_iret (w' := []) hx hb hr hlk hK hP hD hS (Nat.le_of_ble_eq_true rfl) (Nat.le_of_ble_eq_true rfl) dX9_began_19 ⟨(by unfold gBg; rw [if_neg c_1, if_pos c_2]), rfl⟩
  · refine lv_iconst (v := 0) hx hb dX9_began_8 (by decide) ?_
    exact gx_iret (w' := []) hx hb hr hlk hK hP hD hS (Nat.le_of_ble_eq_true rfl) (Nat.le_of_ble_eq_true rfl) dX9_began_9 ⟨(by unfold gBg; rw [if_pos c_1]), rfl⟩
