theorem dJ6_compare_7cf53_0 : decode cJ6_compare_7cf53 0 = .ok (.iload_n 0, 1) := by decide +kernel
theorem dJ6_compare_7cf53_1 : decode cJ6_compare_7cf53 1 = .ok (.iload_n 1, 1) := by decide +kernel
theorem dJ6_compare_7cf53_10 : decode cJ6_compare_7cf53 10 = .ok (.iload_n 1, 1) := by decide +kernel
theorem dJ6_compare_7cf53_11 : decode cJ6_compare_7cf53 11 = .ok (.if_icmp .ne 7, 3) := by decide +kernel
theorem dJ6_compare_7cf53_14 : decode cJ6_compare_7cf53 14 = .ok (.iconst 0, 1) := by decide +kernel
theorem dJ6_compare_7cf53_15 : decode cJ6_compare_7cf53 15 = .ok (.goto 4, 3) := by decide +kernel
theorem dJ6_compare_7cf53_18 : decode cJ6_compare_7cf53 18 = .ok (.iconst 1, 1) := by decide +kernel
theorem dJ6_compare_7cf53_19 : decode cJ6_compare_7cf53 19 = .ok (.ireturn, 1) := by decide +kernel
theorem dJ6_compare_7cf53_2 : decode cJ6_compare_7cf53 2 = .ok (.if_icmp .ge 7, 3) := by decide +kernel
theorem dJ6_compare_7cf53_5 : decode cJ6_compare_7cf53 5 = .ok (.iconst (-1), 1) := by decide +kernel
theorem dJ6_compare_7cf53_6 : decode cJ6_compare_7cf53 6 = .ok (.goto 13, 3) := by decide +kernel
theorem dJ6_compare_7cf53_9 : decode cJ6_compare_7cf53 9 = .ok (.iload_n 0, 1) := by decide +kernel
theorem dJ7_fill_fda19_0 : decode cJ7_fill_fda19 0 = .ok (.aload_n 0, 1) := by decide +kernel
theorem dJ7_fill_fda19_1 : decode cJ7_fill_fda19 1 = .ok (.arraylength, 1) := by decide +kernel
theorem dJ7_fill_fda19_10 : decode cJ7_fill_fda19 10 = .ok (.iload 4, 2) := by decide +kernel
theorem dJ7_fill_fda19_12 : decode cJ7_fill_fda19 12 = .ok (.iload_n 2, 1) := by decide +kernel
theorem dJ7_fill_fda19_13 : decode cJ7_fill_fda19 13 = .ok (.if_icmp .ge 14, 3) := by decide +kernel
theorem dJ7_fill_fda19_16 : decode cJ7_fill_fda19 16 = .ok (.aload_n 0, 1) := by decide +kernel
theorem dJ7_fill_fda19_17 : decode cJ7_fill_fda19 17 = .ok (.iload 4, 2) := by decide +kernel
theorem dJ7_fill_fda19_19 : decode cJ7_fill_fda19 19 = .ok (.iload_n 3, 1) := by decide +kernel
theorem dJ7_fill_fda19_2 : decode cJ7_fill_fda19 2 = .ok (.iload_n 1, 1) := by decide +kernel
theorem dJ7_fill_fda19_20 : decode cJ7_fill_fda19 20 = .ok (.iastore, 1) := by decide +kernel
theorem dJ7_fill_fda19_21 : decode cJ7_fill_fda19 21 = .ok (.iinc 4 1, 3) := by decide +kernel
theorem dJ7_fill_fda19_24 : decode cJ7_fill_fda19 24 = .ok (.goto (-14), 3) := by decide +kernel
theorem dJ7_fill_fda19_27 : decode cJ7_fill_fda19 27 = .ok (.return_, 1) := by decide +kernel
theorem dJ7_fill_fda19_3 : decode cJ7_fill_fda19 3 = .ok (.iload_n 2, 1) := by decide +kernel
theorem dJ7_fill_fda19_4 : decode cJ7_fill_fda19 4 = .ok (.invokestatic 13, 3) := by decide +kernel
theorem dJ7_fill_fda19_7 : decode cJ7_fill_fda19 7 = .ok (.iload_n 1, 1) := by decide +kernel
theorem dJ7_fill_fda19_8 : decode cJ7_fill_fda19 8 = .ok (.istore 4, 2) := by decide +kernel
theorem dJ7_rangeCheck_23922_0 : decode cJ7_rangeCheck_23922 0 = .ok (.iload_n 1, 1) := by decide +kernel
theorem dJ7_rangeCheck_23922_1 : decode cJ7_rangeCheck_23922 1 = .ok (.iload_n 2, 1) := by decide +kernel
theorem dJ7_rangeCheck_23922_2 : decode cJ7_rangeCheck_23922 2 = .ok (.if_icmp .le 44, 3) := by decide +kernel
theorem dJ7_rangeCheck_23922_46 : decode cJ7_rangeCheck_23922 46 = .ok (.iload_n 1, 1) := by decide +kernel
theorem dJ7_rangeCheck_23922_47 : decode cJ7_rangeCheck_23922 47 = .ok (.ifCond .ge 12, 3) := by decide +kernel
theorem dJ7_rangeCheck_23922_59 : decode cJ7_rangeCheck_23922 59 = .ok (.iload_n 2, 1) := by decide +kernel
theorem dJ7_rangeCheck_23922_60 : decode cJ7_rangeCheck_23922 60 = .ok (.iload_n 0, 1) := by decide +kernel
theorem dJ7_rangeCheck_23922_61 : decode cJ7_rangeCheck_23922 61 = .ok (.if_icmp .le 12, 3) := by decide +kernel
theorem dJ7_rangeCheck_23922_73 : decode cJ7_rangeCheck_23922 73 = .ok (.return_, 1) := by decide +kernel
theorem dX2_record_0 : decode cX2_record 0 = .ok (.aload_n 1, 1) := by decide +kernel
theorem dX2_record_1 : decode cX2_record 1 = .ok (.getfield 45, 3) := by decide +kernel
theorem dX2_record_10 : decode cX2_record 10 = .ok (.iload 4, 2) := by decide +kernel
theorem dX2_record_101 : decode cX2_record 101 = .ok (.bipush 10, 2) := by decide +kernel
theorem dX2_record_103 : decode cX2_record 103 = .ok (.idiv, 1) := by decide +kernel
theorem dX2_record_104 : decode cX2_record 104 = .ok (.iadd, 1) := by decide +kernel
theorem dX2_record_105 : decode cX2_record 105 = .ok (.dup2, 1) := by decide +kernel
theorem dX2_record_106 : decode cX2_record 106 = .ok (.iaload, 1) := by decide +kernel
theorem dX2_record_107 : decode cX2_record 107 = .ok (.iload 7, 2) := by decide +kernel
theorem dX2_record_109 : decode cX2_record 109 = .ok (.iconst 3, 1) := by decide +kernel
theorem dX2_record_110 : decode cX2_record 110 = .ok (.iload 6, 2) := by decide +kernel
theorem dX2_record_112 : decode cX2_record 112 = .ok (.bipush 10, 2) := by decide +kernel
theorem dX2_record_114 : decode cX2_record 114 = .ok (.irem, 1) := by decide +kernel
theorem dX2_record_115 : decode cX2_record 115 = .ok (.imul, 1) := by decide +kernel
theorem dX2_record_116 : decode cX2_record 116 = .ok (.ishl, 1) := by decide +kernel
theorem dX2_record_117 : decode cX2_record 117 = .ok (.ior, 1) := by decide +kernel
theorem dX2_record_118 : decode cX2_record 118 = .ok (.iastore, 1) := by decide +kernel
theorem dX2_record_119 : decode cX2_record 119 = .ok (.iinc 6 1, 3) := by decide +kernel
theorem dX2_record_12 : decode cX2_record 12 = .ok (.bipush 13, 2) := by decide +kernel
theorem dX2_record_122 : decode cX2_record 122 = .ok (.goto (-47), 3) := by decide +kernel
theorem dX2_record_125 : decode cX2_record 125 = .ok (.return_, 1) := by decide +kernel
theorem dX2_record_14 : decode cX2_record 14 = .ok (.if_icmp .ge 28, 3) := by decide +kernel
theorem dX2_record_17 : decode cX2_record 17 = .ok (.aload_n 0, 1) := by decide +kernel
theorem dX2_record_18 : decode cX2_record 18 = .ok (.getfield 11, 3) := by decide +kernel
theorem dX2_record_21 : decode cX2_record 21 = .ok (.iload_n 2, 1) := by decide +kernel
theorem dX2_record_22 : decode cX2_record 22 = .ok (.bipush 17, 2) := by decide +kernel
theorem dX2_record_24 : decode cX2_record 24 = .ok (.imul, 1) := by decide +kernel
theorem dX2_record_25 : decode cX2_record 25 = .ok (.iload 4, 2) := by decide +kernel
theorem dX2_record_27 : decode cX2_record 27 = .ok (.iadd, 1) := by decide +kernel
theorem dX2_record_28 : decode cX2_record 28 = .ok (.aload_n 1, 1) := by decide +kernel
theorem dX2_record_29 : decode cX2_record 29 = .ok (.iload_n 3, 1) := by decide +kernel
theorem dX2_record_30 : decode cX2_record 30 = .ok (.iload 4, 2) := by decide +kernel
theorem dX2_record_32 : decode cX2_record 32 = .ok (.invokevirtual 48, 3) := by decide +kernel
theorem dX2_record_35 : decode cX2_record 35 = .ok (.iastore, 1) := by decide +kernel
theorem dX2_record_36 : decode cX2_record 36 = .ok (.iinc 4 1, 3) := by decide +kernel
theorem dX2_record_39 : decode cX2_record 39 = .ok (.goto (-29), 3) := by decide +kernel
theorem dX2_record_4 : decode cX2_record 4 = .ok (.iload_n 2, 1) := by decide +kernel
theorem dX2_record_42 : decode cX2_record 42 = .ok (.iload_n 2, 1) := by decide +kernel
theorem dX2_record_43 : decode cX2_record 43 = .ok (.bipush 17, 2) := by decide +kernel
theorem dX2_record_45 : decode cX2_record 45 = .ok (.imul, 1) := by decide +kernel
theorem dX2_record_46 : decode cX2_record 46 = .ok (.bipush 13, 2) := by decide +kernel
theorem dX2_record_48 : decode cX2_record 48 = .ok (.iadd, 1) := by decide +kernel
theorem dX2_record_49 : decode cX2_record 49 = .ok (.istore 4, 2) := by decide +kernel
theorem dX2_record_5 : decode cX2_record 5 = .ok (.iaload, 1) := by decide +kernel
theorem dX2_record_51 : decode cX2_record 51 = .ok (.aload_n 0, 1) := by decide +kernel
theorem dX2_record_52 : decode cX2_record 52 = .ok (.getfield 11, 3) := by decide +kernel
theorem dX2_record_55 : decode cX2_record 55 = .ok (.iload 4, 2) := by decide +kernel
theorem dX2_record_57 : decode cX2_record 57 = .ok (.iload 4, 2) := by decide +kernel
theorem dX2_record_59 : decode cX2_record 59 = .ok (.iconst 4, 1) := by decide +kernel
theorem dX2_record_6 : decode cX2_record 6 = .ok (.istore_n 3, 1) := by decide +kernel
theorem dX2_record_60 : decode cX2_record 60 = .ok (.iadd, 1) := by decide +kernel
theorem dX2_record_61 : decode cX2_record 61 = .ok (.iconst 0, 1) := by decide +kernel
theorem dX2_record_62 : decode cX2_record 62 = .ok (.invokestatic 51, 3) := by decide +kernel
theorem dX2_record_65 : decode cX2_record 65 = .ok (.aload_n 1, 1) := by decide +kernel
theorem dX2_record_66 : decode cX2_record 66 = .ok (.iload_n 3, 1) := by decide +kernel
theorem dX2_record_67 : decode cX2_record 67 = .ok (.invokevirtual 57, 3) := by decide +kernel
theorem dX2_record_7 : decode cX2_record 7 = .ok (.iconst 0, 1) := by decide +kernel
theorem dX2_record_70 : decode cX2_record 70 = .ok (.istore 5, 2) := by decide +kernel
theorem dX2_record_72 : decode cX2_record 72 = .ok (.iconst 0, 1) := by decide +kernel
theorem dX2_record_73 : decode cX2_record 73 = .ok (.istore 6, 2) := by decide +kernel
theorem dX2_record_75 : decode cX2_record 75 = .ok (.iload 6, 2) := by decide +kernel
theorem dX2_record_77 : decode cX2_record 77 = .ok (.iload 5, 2) := by decide +kernel
theorem dX2_record_79 : decode cX2_record 79 = .ok (.if_icmp .ge 46, 3) := by decide +kernel
theorem dX2_record_8 : decode cX2_record 8 = .ok (.istore 4, 2) := by decide +kernel
theorem dX2_record_82 : decode cX2_record 82 = .ok (.aload_n 1, 1) := by decide +kernel
theorem dX2_record_83 : decode cX2_record 83 = .ok (.getfield 61, 3) := by decide +kernel
theorem dX2_record_86 : decode cX2_record 86 = .ok (.iload 6, 2) := by decide +kernel
theorem dX2_record_88 : decode cX2_record 88 = .ok (.iaload, 1) := by decide +kernel
theorem dX2_record_89 : decode cX2_record 89 = .ok (.iconst 1, 1) := by decide +kernel
theorem dX2_record_90 : decode cX2_record 90 = .ok (.iadd, 1) := by decide +kernel
theorem dX2_record_91 : decode cX2_record 91 = .ok (.istore 7, 2) := by decide +kernel
theorem dX2_record_93 : decode cX2_record 93 = .ok (.aload_n 0, 1) := by decide +kernel
theorem dX2_record_94 : decode cX2_record 94 = .ok (.getfield 11, 3) := by decide +kernel
theorem dX2_record_97 : decode cX2_record 97 = .ok (.iload 4, 2) := by decide +kernel
theorem dX2_record_99 : decode cX2_record 99 = .ok (.iload 6, 2) := by decide +kernel
def wsP_c_rangeCheck : List Cond := .code yJ7_rangeCheck_23922 cJ7_rangeCheck_23922 3 none :: (([]) ++ [])
theorem gW_c_rangeCheck : wsP_c_rangeCheck.all goodWord = true := by unfold wsP_c_rangeCheck; exact gw_mk (by decide +kernel) rfl
set_option maxHeartbeats 4000000 in
set_option maxRecDepth 100000 in
theorem c_rangeCheck (l : Launch) (D : va_G) (cI cB cZ : ClassId) (a : Nat) (b : Nat) (t : Nat) (h1 : b ≤ t) (h2 : t ≤ a) (h3 : a ≤ 102000) : gMv l yJ7_rangeCheck_23922 wsP_c_rangeCheck ({ frames := 0, cells := 0, slots := 0, locals := 0 }) D cI cB cZ [] [.int (nI a), .int (nI b), .int (nI t)] [] (fun w9 => w9 = []) := by
  refine gMv.of (cc := cJ7_rangeCheck_23922) (maxL := 3) (ret := none) (by decide) rfl (Nat.le_of_ble_eq_true rfl) (fun p e s m below meth c A ls hx hb hr hlk hml hts hown hin hA hP hK hD hS hN hl => ?_)
  have hown : s.vm.findClass RJ7 = some m.cls := hown
  have hl : lv_has ls 3 [(0, .int (nI a)), (1, .int (nI b)), (2, .int (nI t))] := hl
  refine lv_iload_n hx hb dJ7_rangeCheck_23922_0 rfl (lv_at hl 1 rfl) ?_
  refine lv_iload_n hx hb dJ7_rangeCheck_23922_1 rfl (lv_at hl 2 rfl) ?_
  refine gy_le (a := b) (b := t) (tgt := 46) hx hb (by omega) (by omega) dJ7_rangeCheck_23922_2 (by decide) (fun c_1 => ?_) (fun c_1 => ?_)
  · refine lv_iload_n hx hb dJ7_rangeCheck_23922_46 rfl (lv_at hl 1 rfl) ?_
    refine lv_if_ge (tgt := 59) hx hb dJ7_rangeCheck_23922_47 (by decide) (fun _ => ?_) (fun c9 => absurd (nI_pos' (by omega)) c9)
    refine lv_iload_n hx hb dJ7_rangeCheck_23922_59 rfl (lv_at hl 2 rfl) ?_
    refine lv_iload_n hx hb dJ7_rangeCheck_23922_60 rfl (lv_at hl 0 rfl) ?_
    refine gy_le (a := t) (b := a) (tgt := 73) hx hb (by omega) (by omega) dJ7_rangeCheck_23922_61 (by decide) (fun c_2 => ?_) (fun c_2 => ?_)
    · exact gx_vret (w' := []) hx hb hr hlk hK hP hD hS (Nat.le_of_ble_eq_true rfl) (Nat.le_of_ble_eq_true rfl) dJ7_rangeCheck_23922_73 rfl
    · exfalso; omega
  · exfalso; omega