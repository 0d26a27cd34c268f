theorem gx_pos {big ws : List Cond} (ps : List Nat) (hp : ws = ps.filterMap (fun i => big[i]?)) : ∀ w ∈ ws, w ∈ big := by
  intro w hw
  rw [hp] at hw
  obtain ⟨i, -, hi⟩ := List.mem_filterMap.mp hw
  exact List.mem_of_getElem? hi
theorem iw_app {T a b : List Cond} (ha : ∀ w ∈ a, w ∈ T) (hb : ∀ w ∈ b, w ∈ T) : ∀ w ∈ a ++ b, w ∈ T := fun w h => (List.mem_append.mp h).elim (ha w) (hb w)
theorem iw_nil {T : List Cond} : ∀ w ∈ ([] : List Cond), w ∈ T := fun _ h => absurd h List.not_mem_nil
theorem iw_cons {T a : List Cond} {c : Cond} (hc : c ∈ T) (ha : ∀ w ∈ a, w ∈ T) : ∀ w ∈ c :: a, w ∈ T := List.forall_mem_cons.mpr ⟨hc, ha⟩
theorem gw_inP {big pre ws : List Cond} (h0 : ∀ w ∈ pre, w ∈ big) (hg : pre.all goodWord = true) (h1 : ∀ w ∈ ws, w ∈ big) (h2 : ws.all goodWord = true) : GoodIn big (pre ++ ws) := fun w hw => (List.mem_append.mp hw).elim (fun h => ⟨h0 w h, good_of_word (List.all_eq_true.mp hg w h)⟩) (fun h => ⟨h1 w h, good_of_word (List.all_eq_true.mp h2 w h)⟩)
theorem inX0 : ∀ w ∈ wsX00, w ∈ lw_tbl := gx_pos [304, 306, 308, 310, 312, 314] (by decide +kernel)
theorem inX1 : ∀ w ∈ wsX10, w ∈ lw_tbl := gx_pos [702, 704, 706, 708, 710, 712, 714, 716, 718, 720] (by decide +kernel)
theorem inX2 : ∀ w ∈ wsX20, w ∈ lw_tbl := gx_pos [249, 251, 253, 255, 257] (by decide +kernel)
theorem inX3 : ∀ w ∈ wsX30, w ∈ lw_tbl := gx_pos [223, 225, 227, 229, 231] (by decide +kernel)
theorem inX4 : ∀ w ∈ wsX40, w ∈ lw_tbl := gx_pos [145, 147, 149, 151] (by decide +kernel)
theorem inX5 : ∀ w ∈ wsX50, w ∈ lw_tbl := gx_pos [275, 277, 279, 281, 283, 285, 287] (by decide +kernel)
theorem inX6 : ∀ w ∈ wsX60, w ∈ lw_tbl := gx_pos [170, 172, 174, 176, 178, 180, 182, 184, 186, 188, 190, 192] (by decide +kernel)
theorem inX7 : ∀ w ∈ wsX70, w ∈ lw_tbl := gx_pos [212] (by decide +kernel)
theorem inX8 : ∀ w ∈ wsX80, w ∈ lw_tbl := gx_pos [329, 331, 333, 335, 337, 339, 341, 343, 345, 347, 349, 351] (by decide +kernel)
theorem inX9 : ∀ w ∈ wsX90, w ∈ lw_tbl := gx_pos [1021, 1023, 1025, 1027, 1029, 1031, 1033, 1035, 1037, 1039, 1041, 1043, 1045, 1047, 1049, 1051, 1053, 1055, 1057, 1059, 1061, 1063, 1065, 1067, 1069, 1071, 1073, 1075, 1077, 1079, 1081, 1083, 1085, 1087, 1089, 1091, 1093, 1095, 1097, 1099, 1101, 1103, 1105, 1107, 1109, 1111, 1113, 1115, 1117, 1119, 1121, 1123] (by decide +kernel)
set_option maxRecDepth 20000 in
theorem iw_x_X8_feedWord : ∀ w ∈ wsP_x_X8_feedWord, w ∈ lw_tbl := by unfold wsP_x_X8_feedWord; exact iw_cons (List.mem_of_getElem? (i := 361) (by decide +kernel)) (iw_app (iw_app (gx_pos [318, 317] (by decide +kernel)) inX8) iw_nil)
set_option maxRecDepth 20000 in
theorem iw_x_X8_feed : ∀ w ∈ wsP_x_X8_feed, w ∈ lw_tbl := by unfold wsP_x_X8_feed; exact iw_cons (List.mem_of_getElem? (i := 357) (by decide +kernel)) (iw_app (iw_app (gx_pos [318, 358, 360, 0, 91] (by decide +kernel)) inX8) (iw_app iw_x_X8_feedWord iw_nil))
set_option maxRecDepth 20000 in
theorem iw_c_X8_back : ∀ w ∈ wsP_c_X8_back, w ∈ lw_tbl := by unfold wsP_c_X8_back; exact iw_cons (List.mem_of_getElem? (i := 365) (by decide +kernel)) (iw_app (gx_pos [318] (by decide +kernel)) inX8)
set_option maxRecDepth 20000 in
theorem iw_x_blanks : ∀ w ∈ wsP_x_blanks, w ∈ lw_tbl := by unfold wsP_x_blanks; exact iw_cons (List.mem_of_getElem? (i := 380) (by decide +kernel)) (iw_app iw_nil iw_nil)
set_option maxRecDepth 20000 in
theorem iw_c_isLetter : ∀ w ∈ wsP_c_isLetter, w ∈ lw_tbl := by unfold wsP_c_isLetter; exact iw_cons (List.mem_of_getElem? (i := 386) (by decide +kernel)) iw_nil
set_option maxRecDepth 20000 in
theorem iw_c_isDigit : ∀ w ∈ wsP_c_isDigit, w ∈ lw_tbl := by unfold wsP_c_isDigit; exact iw_cons (List.mem_of_getElem? (i := 389) (by decide +kernel)) iw_nil
set_option maxRecDepth 20000 in
theorem iw_x_run : ∀ w ∈ wsP_x_run, w ∈ lw_tbl := by unfold wsP_x_run; exact iw_cons (List.mem_of_getElem? (i := 383) (by decide +kernel)) (iw_app (gx_pos [384, 385, 92, 387, 388, 92] (by decide +kernel)) (iw_app iw_c_isLetter (iw_app iw_c_isDigit iw_nil)))
set_option maxRecDepth 20000 in
theorem iw_c_lat : ∀ w ∈ wsP_c_lat, w ∈ lw_tbl := by unfold wsP_c_lat; exact iw_cons (List.mem_of_getElem? (i := 407) (by decide +kernel)) (iw_app (gx_pos [408, 1450] (by decide +kernel)) iw_nil)
set_option maxRecDepth 20000 in
theorem iw_c_chk3N : ∀ w ∈ wsP_c_chk3N, w ∈ lw_tbl := by unfold wsP_c_chk3N; exact iw_cons (List.mem_of_getElem? (i := 420) (by decide +kernel)) (iw_app iw_nil iw_nil)
set_option maxRecDepth 20000 in
theorem iw_c_chk3R : ∀ w ∈ wsP_c_chk3R, w ∈ lw_tbl := by unfold wsP_c_chk3R; exact iw_cons (List.mem_of_getElem? (i := 420) (by decide +kernel)) (iw_app iw_nil iw_nil)
set_option maxRecDepth 20000 in
theorem iw_c_chk0 : ∀ w ∈ wsP_c_chk0, w ∈ lw_tbl := by unfold wsP_c_chk0; exact iw_cons (List.mem_of_getElem? (i := 415) (by decide +kernel)) (iw_app (gx_pos [416, 418, 419, 102] (by decide +kernel)) (iw_app iw_c_chk3N (iw_app iw_c_chk3R iw_nil)))
set_option maxRecDepth 20000 in
theorem iw_c_chr1 : ∀ w ∈ wsP_c_chr1, w ∈ lw_tbl := by unfold wsP_c_chr1; exact iw_cons (List.mem_of_getElem? (i := 412) (by decide +kernel)) (iw_app (gx_pos [413, 414, 100] (by decide +kernel)) (iw_app iw_c_chk0 iw_nil))
set_option maxRecDepth 20000 in
theorem iw_c_charAt : ∀ w ∈ wsP_c_charAt, w ∈ lw_tbl := by unfold wsP_c_charAt; exact iw_cons (List.mem_of_getElem? (i := 403) (by decide +kernel)) (iw_app (gx_pos [404, 405, 406, 100, 1451, 410, 411, 101] (by decide +kernel)) (iw_app iw_c_lat (iw_app iw_c_chr1 iw_nil)))
set_option maxRecDepth 20000 in
theorem iw_e_xWord : ∀ w ∈ wsP_e_xWord, w ∈ lw_tbl := by unfold wsP_e_xWord; exact iw_cons (List.mem_of_getElem? (i := 398) (by decide +kernel)) (iw_app (gx_pos [400, 401, 402, 100] (by decide +kernel)) (iw_app iw_c_charAt iw_nil))
set_option maxRecDepth 20000 in
theorem iw_e_wordKind : ∀ w ∈ wsP_e_wordKind, w ∈ lw_tbl := by unfold wsP_e_wordKind; exact iw_cons (List.mem_of_getElem? (i := 395) (by decide +kernel)) (iw_app (gx_pos [396, 397, 92] (by decide +kernel)) (iw_app iw_e_xWord iw_nil))
set_option maxRecDepth 20000 in
theorem iw_e_kindOf : ∀ w ∈ wsP_e_kindOf, w ∈ lw_tbl := by unfold wsP_e_kindOf; exact iw_cons (List.mem_of_getElem? (i := 392) (by decide +kernel)) (iw_app (gx_pos [384, 385, 92, 387, 388, 92, 393, 394, 92] (by decide +kernel)) (iw_app iw_c_isLetter (iw_app iw_c_isDigit (iw_app iw_e_wordKind iw_nil))))
set_option maxRecDepth 20000 in
theorem iw_x_num : ∀ w ∈ wsP_x_num, w ∈ lw_tbl := by unfold wsP_x_num; exact iw_cons (List.mem_of_getElem? (i := 442) (by decide +kernel)) (iw_app iw_nil iw_nil)
set_option maxRecDepth 20000 in
theorem iw_x_scan : ∀ w ∈ wsP_x_scan, w ∈ lw_tbl := by unfold wsP_x_scan; exact iw_cons (List.mem_of_getElem? (i := 377) (by decide +kernel)) (iw_app (iw_app (gx_pos [378, 379, 92, 163, 381, 382, 92, 162, 390, 391, 92, 164, 440, 441, 92] (by decide +kernel)) inX6) (iw_app iw_x_blanks (iw_app iw_x_run (iw_app iw_e_kindOf (iw_app iw_x_num iw_nil)))))
set_option maxRecDepth 20000 in
theorem iw_c_clear : ∀ w ∈ wsP_c_clear, w ∈ lw_tbl := by unfold wsP_c_clear; exact iw_cons (List.mem_of_getElem? (i := 446) (by decide +kernel)) (iw_app (gx_pos [129, 134, 447, 448, 104, 449, 139] (by decide +kernel)) inX4)
set_option maxRecDepth 20000 in
theorem iw_c_fail : ∀ w ∈ wsP_c_fail, w ∈ lw_tbl := by unfold wsP_c_fail; exact iw_cons (List.mem_of_getElem? (i := 465) (by decide +kernel)) (iw_app (gx_pos [160, 163, 166, 158] (by decide +kernel)) inX6)
set_option maxRecDepth 20000 in
theorem iw_x_take : ∀ w ∈ wsP_x_take, w ∈ lw_tbl := by unfold wsP_x_take; exact iw_cons (List.mem_of_getElem? (i := 461) (by decide +kernel)) (iw_app (iw_app (gx_pos [162, 166, 462, 464, 5, 92] (by decide +kernel)) inX6) (iw_app iw_c_fail iw_nil))
set_option maxRecDepth 20000 in
theorem iw_x_noteLate : ∀ w ∈ wsP_x_noteLate, w ∈ lw_tbl := by unfold wsP_x_noteLate; exact iw_cons (List.mem_of_getElem? (i := 473) (by decide +kernel)) (iw_app (iw_app (gx_pos [161, 163] (by decide +kernel)) inX6) iw_nil)
set_option maxRecDepth 20000 in
theorem iw_x_takeCell : ∀ w ∈ wsP_x_takeCell, w ∈ lw_tbl := by unfold wsP_x_takeCell; exact iw_cons (List.mem_of_getElem? (i := 469) (by decide +kernel)) (iw_app (iw_app (gx_pos [164, 166, 169, 458, 460, 4, 92, 470, 472, 7] (by decide +kernel)) inX6) (iw_app iw_x_take (iw_app iw_x_noteLate iw_nil)))
set_option maxRecDepth 20000 in
theorem iw_x_takeVal0 : ∀ w ∈ wsP_x_takeVal0, w ∈ lw_tbl := by unfold wsP_x_takeVal0; exact iw_cons (List.mem_of_getElem? (i := 477) (by decide +kernel)) (iw_app (iw_app (gx_pos [162, 166, 168, 164, 169, 458, 460, 4, 92] (by decide +kernel)) inX6) (iw_app iw_x_take iw_nil))
set_option maxRecDepth 20000 in
theorem iw_x_readCellLine : ∀ w ∈ wsP_x_readCellLine, w ∈ lw_tbl := by unfold wsP_x_readCellLine; exact iw_cons (List.mem_of_getElem? (i := 457) (by decide +kernel)) (iw_app (iw_app (iw_app (gx_pos [458, 460, 4, 92, 466, 468, 6, 169, 166, 474, 476, 8, 167, 156, 141, 470, 472, 7] (by decide +kernel)) inX6) inX4) (iw_app iw_x_take (iw_app iw_x_takeCell (iw_app iw_x_takeVal0 (iw_app iw_x_noteLate iw_nil)))))
set_option maxRecDepth 20000 in
theorem iw_x_readCells : ∀ w ∈ wsP_x_readCells, w ∈ lw_tbl := by unfold wsP_x_readCells; exact iw_cons (List.mem_of_getElem? (i := 453) (by decide +kernel)) (iw_app (iw_app (gx_pos [162, 166, 454, 456, 3, 92] (by decide +kernel)) inX6) (iw_app iw_x_readCellLine iw_nil))
set_option maxRecDepth 20000 in
theorem iw_c_part : ∀ w ∈ wsP_c_part, w ∈ lw_tbl := by unfold wsP_c_part; exact iw_cons (List.mem_of_getElem? (i := 530) (by decide +kernel)) (iw_app (gx_pos [142, 490, 491, 93, 492] (by decide +kernel)) inX4)
set_option maxRecDepth 20000 in
theorem iw_x_checkSkips : ∀ w ∈ wsP_x_checkSkips, w ∈ lw_tbl := by unfold wsP_x_checkSkips; exact iw_cons (List.mem_of_getElem? (i := 526) (by decide +kernel)) (iw_app (iw_app (iw_app (gx_pos [156, 138, 527, 528, 529, 93, 165, 470, 472, 7, 92] (by decide +kernel)) inX6) inX4) (iw_app iw_c_part (iw_app iw_x_noteLate iw_nil)))
set_option maxRecDepth 20000 in
theorem iw_c_addBlank : ∀ w ∈ wsP_c_addBlank, w ∈ lw_tbl := by unfold wsP_c_addBlank; exact iw_cons (List.mem_of_getElem? (i := 489) (by decide +kernel)) (iw_app (gx_pos [134, 490, 491, 93, 492, 142] (by decide +kernel)) inX4)
set_option maxRecDepth 20000 in
theorem iw_c_shapeOf : ∀ w ∈ wsP_c_shapeOf, w ∈ lw_tbl := by unfold wsP_c_shapeOf; exact iw_cons (List.mem_of_getElem? (i := 495) (by decide +kernel)) (iw_app iw_nil iw_nil)
set_option maxRecDepth 20000 in
theorem iw_c_coder : ∀ w ∈ wsP_c_coder, w ∈ lw_tbl := by unfold wsP_c_coder; exact iw_cons (List.mem_of_getElem? (i := 510) (by decide +kernel)) (iw_app (gx_pos [408, 1450] (by decide +kernel)) iw_nil)
set_option maxRecDepth 20000 in
theorem iw_c_length : ∀ w ∈ wsP_c_length, w ∈ lw_tbl := by unfold wsP_c_length; exact iw_cons (List.mem_of_getElem? (i := 506) (by decide +kernel)) (iw_app (gx_pos [1451, 507, 508, 509, 100] (by decide +kernel)) (iw_app iw_c_coder iw_nil))
set_option maxRecDepth 20000 in
theorem iw_x_takeReg : ∀ w ∈ wsP_x_takeReg, w ∈ lw_tbl := by unfold wsP_x_takeReg; exact iw_cons (List.mem_of_getElem? (i := 518) (by decide +kernel)) (iw_app (iw_app (gx_pos [162, 166, 462, 464, 5, 92, 168, 458, 460, 4] (by decide +kernel)) inX6) (iw_app iw_c_fail (iw_app iw_x_take iw_nil)))
set_option maxRecDepth 20000 in
theorem iw_x_partR : ∀ w ∈ wsP_x_partR, w ∈ lw_tbl := by unfold wsP_x_partR; exact iw_cons (List.mem_of_getElem? (i := 514) (by decide +kernel)) (iw_app (iw_app (iw_app (gx_pos [515, 517, 12, 92, 156, 144, 168] (by decide +kernel)) inX6) inX4) (iw_app iw_x_takeReg iw_nil))
set_option maxRecDepth 20000 in
theorem iw_x_partC : ∀ w ∈ wsP_x_partC, w ∈ lw_tbl := by unfold wsP_x_partC; exact iw_cons (List.mem_of_getElem? (i := 514) (by decide +kernel)) (iw_app (iw_app (iw_app (gx_pos [466, 468, 6, 92, 156, 144, 169] (by decide +kernel)) inX6) inX4) (iw_app iw_x_takeCell iw_nil))
set_option maxRecDepth 20000 in
theorem iw_x_takeVal1 : ∀ w ∈ wsP_x_takeVal1, w ∈ lw_tbl := by unfold wsP_x_takeVal1; exact iw_cons (List.mem_of_getElem? (i := 477) (by decide +kernel)) (iw_app (iw_app (gx_pos [162, 166, 168, 164, 169, 458, 460, 4, 92] (by decide +kernel)) inX6) (iw_app iw_x_take iw_nil))
set_option maxRecDepth 20000 in
theorem iw_x_partV : ∀ w ∈ wsP_x_partV, w ∈ lw_tbl := by unfold wsP_x_partV; exact iw_cons (List.mem_of_getElem? (i := 514) (by decide +kernel)) (iw_app (iw_app (iw_app (gx_pos [474, 476, 8, 92, 156, 144, 168, 169] (by decide +kernel)) inX6) inX4) (iw_app iw_x_takeVal1 iw_nil))
set_option maxRecDepth 20000 in
theorem iw_x_partW : ∀ w ∈ wsP_x_partW, w ∈ lw_tbl := by unfold wsP_x_partW; exact iw_cons (List.mem_of_getElem? (i := 514) (by decide +kernel)) (iw_app (iw_app (iw_app (gx_pos [474, 476, 8, 92, 156, 144, 168, 169] (by decide +kernel)) inX6) inX4) (iw_app iw_x_takeVal1 iw_nil))
set_option maxRecDepth 20000 in
theorem iw_x_takeSkip : ∀ w ∈ wsP_x_takeSkip, w ∈ lw_tbl := by unfold wsP_x_takeSkip; exact iw_cons (List.mem_of_getElem? (i := 522) (by decide +kernel)) (iw_app (iw_app (gx_pos [458, 460, 4, 92, 164, 166, 169] (by decide +kernel)) inX6) (iw_app iw_x_take iw_nil))
set_option maxRecDepth 20000 in
theorem iw_x_partS : ∀ w ∈ wsP_x_partS, w ∈ lw_tbl := by unfold wsP_x_partS; exact iw_cons (List.mem_of_getElem? (i := 514) (by decide +kernel)) (iw_app (iw_app (iw_app (gx_pos [519, 521, 13, 92, 156, 144, 169] (by decide +kernel)) inX6) inX4) (iw_app iw_x_takeSkip iw_nil))
set_option maxRecDepth 20000 in
theorem iw_x_readIns : ∀ w ∈ wsP_x_readIns, w ∈ lw_tbl := by unfold wsP_x_readIns; exact iw_cons (List.mem_of_getElem? (i := 485) (by decide +kernel)) (iw_app (iw_app (gx_pos [162, 166, 458, 460, 4, 92, 156, 486, 487, 488, 93, 493, 494, 92, 503, 504, 505, 100, 400, 401, 402, 511, 513, 11, 165] (by decide +kernel)) inX6) (iw_app iw_x_take (iw_app iw_c_addBlank (iw_app iw_c_shapeOf (iw_app iw_c_length (iw_app iw_c_charAt (iw_app iw_x_partR (iw_app iw_x_partC (iw_app iw_x_partV (iw_app iw_x_partW (iw_app iw_x_partS iw_nil)))))))))))
set_option maxRecDepth 20000 in
theorem iw_x_readCores : ∀ w ∈ wsP_x_readCores, w ∈ lw_tbl := by unfold wsP_x_readCores; exact iw_cons (List.mem_of_getElem? (i := 481) (by decide +kernel)) (iw_app (iw_app (iw_app (gx_pos [162, 166, 462, 464, 5, 92, 156, 133, 458, 460, 4, 523, 525, 14, 482, 484, 10] (by decide +kernel)) inX6) inX4) (iw_app iw_c_fail (iw_app iw_x_take (iw_app iw_x_checkSkips (iw_app iw_x_readIns iw_nil)))))
set_option maxRecDepth 20000 in
theorem iw_x_readText : ∀ w ∈ wsP_x_readText, w ∈ lw_tbl := by unfold wsP_x_readText; exact iw_cons (List.mem_of_getElem? (i := 373) (by decide +kernel)) (iw_app (iw_app (gx_pos [374, 376, 1, 92, 160, 158, 161, 166, 167, 156, 443, 444, 445, 93, 450, 452, 2, 478, 480, 9] (by decide +kernel)) inX6) (iw_app iw_x_scan (iw_app iw_c_clear (iw_app iw_x_readCells (iw_app iw_x_readCores iw_nil)))))
set_option maxRecDepth 20000 in
theorem iw_c_forgetSearch : ∀ w ∈ wsP_c_forgetSearch, w ∈ lw_tbl := by unfold wsP_c_forgetSearch; exact iw_cons (List.mem_of_getElem? (i := 538) (by decide +kernel)) (iw_app (gx_pos [299, 300] (by decide +kernel)) inX0)
set_option maxRecDepth 20000 in
theorem iw_c_forgetFindings : ∀ w ∈ wsP_c_forgetFindings, w ∈ lw_tbl := by unfold wsP_c_forgetFindings; exact iw_cons (List.mem_of_getElem? (i := 534) (by decide +kernel)) (iw_app (iw_app (iw_app (iw_app (iw_app (gx_pos [323, 218, 325, 241, 326, 327, 267, 328, 535, 536, 537, 98] (by decide +kernel)) inX8) inX3) inX2) inX5) (iw_app iw_c_forgetSearch iw_nil))
set_option maxRecDepth 20000 in
theorem iw_x_read8 : ∀ w ∈ wsP_x_read8, w ∈ lw_tbl := by unfold wsP_x_read8; exact iw_cons (List.mem_of_getElem? (i := 369) (by decide +kernel)) (iw_app (iw_app (iw_app (gx_pos [319, 317, 318, 370, 371, 372, 92, 159, 320, 322, 157, 321, 531, 533, 15, 91] (by decide +kernel)) inX8) inX6) (iw_app iw_x_readText (iw_app iw_c_forgetFindings iw_nil)))
set_option maxRecDepth 20000 in
theorem iw_x_place8 : ∀ w ∈ wsP_x_place8, w ∈ lw_tbl := by unfold wsP_x_place8; exact iw_cons (List.mem_of_getElem? (i := 542) (by decide +kernel)) (iw_app (iw_app (gx_pos [320] (by decide +kernel)) inX8) iw_nil)
set_option maxRecDepth 20000 in
theorem iw_x_hasCore : ∀ w ∈ wsP_x_hasCore, w ∈ lw_tbl := by unfold wsP_x_hasCore; exact iw_cons (List.mem_of_getElem? (i := 550) (by decide +kernel)) (iw_app (iw_app (iw_app (gx_pos [321, 322, 132] (by decide +kernel)) inX8) inX4) iw_nil)
set_option maxRecDepth 20000 in
theorem iw_x_ins8 : ∀ w ∈ wsP_x_ins8, w ∈ lw_tbl := by unfold wsP_x_ins8; exact iw_cons (List.mem_of_getElem? (i := 546) (by decide +kernel)) (iw_app (iw_app (iw_app (gx_pos [547, 549, 16, 91, 322, 136, 551, 528, 529, 93] (by decide +kernel)) inX8) inX4) (iw_app iw_x_hasCore (iw_app iw_c_part iw_nil)))
set_option maxRecDepth 20000 in
theorem iw_x_isMode : ∀ w ∈ wsP_x_isMode, w ∈ lw_tbl := by unfold wsP_x_isMode; exact iw_cons (List.mem_of_getElem? (i := 558) (by decide +kernel)) (iw_app iw_nil iw_nil)
set_option maxRecDepth 20000 in
theorem iw_c_fill : ∀ w ∈ wsP_c_fill, w ∈ lw_tbl := by unfold wsP_c_fill; exact iw_cons (List.mem_of_getElem? (i := 449) (by decide +kernel)) iw_nil
set_option maxRecDepth 20000 in
theorem iw_e_start : ∀ w ∈ wsP_e_start, w ∈ lw_tbl := by unfold wsP_e_start; exact iw_cons (List.mem_of_getElem? (i := 566) (by decide +kernel)) (iw_app (iw_app (iw_app (gx_pos [209, 567, 448, 104, 140, 568, 570, 569, 105] (by decide +kernel)) inX7) inX4) (iw_app iw_c_fill iw_nil))
set_option maxRecDepth 20000 in
theorem iw_e_mstart : ∀ w ∈ wsP_e_mstart, w ∈ lw_tbl := by unfold wsP_e_mstart; exact iw_cons (List.mem_of_getElem? (i := 562) (by decide +kernel)) (iw_app (iw_app (gx_pos [217, 221, 219, 215, 563, 564, 565, 95] (by decide +kernel)) inX3) (iw_app iw_e_start iw_nil))
set_option maxRecDepth 20000 in
theorem iw_y_begin8 : ∀ w ∈ wsP_y_begin8, w ∈ lw_tbl := by unfold wsP_y_begin8; exact iw_cons (List.mem_of_getElem? (i := 555) (by decide +kernel)) (iw_app (iw_app (gx_pos [321, 556, 557, 91, 323, 322, 559, 560, 561, 94] (by decide +kernel)) inX8) (iw_app iw_x_isMode (iw_app iw_e_mstart iw_nil)))
set_option maxRecDepth 20000 in
theorem iw_c_nextOf : ∀ w ∈ wsP_c_nextOf, w ∈ lw_tbl := by unfold wsP_c_nextOf; exact iw_cons (List.mem_of_getElem? (i := 590) (by decide +kernel)) (iw_app (gx_pos [209] (by decide +kernel)) inX7)
set_option maxRecDepth 20000 in
theorem iw_c_rowSize : ∀ w ∈ wsP_c_rowSize, w ∈ lw_tbl := by unfold wsP_c_rowSize; exact iw_cons (List.mem_of_getElem? (i := 586) (by decide +kernel)) (iw_app (gx_pos [209] (by decide +kernel)) inX7)
set_option maxRecDepth 20000 in
theorem iw_x_isLocked : ∀ w ∈ wsP_x_isLocked, w ∈ lw_tbl := by unfold wsP_x_isLocked; exact iw_cons (List.mem_of_getElem? (i := 597) (by decide +kernel)) (iw_app iw_nil iw_nil)
set_option maxRecDepth 20000 in
theorem iw_x_waits : ∀ w ∈ wsP_x_waits, w ∈ lw_tbl := by unfold wsP_x_waits; exact iw_cons (List.mem_of_getElem? (i := 594) (by decide +kernel)) (iw_app (gx_pos [595, 596, 95] (by decide +kernel)) (iw_app iw_x_isLocked iw_nil))
set_option maxRecDepth 20000 in
theorem iw_x_can8 : ∀ w ∈ wsP_x_can8, w ∈ lw_tbl := by unfold wsP_x_can8; exact iw_cons (List.mem_of_getElem? (i := 582) (by decide +kernel)) (iw_app (iw_app (gx_pos [130, 587, 588, 589, 95, 137, 583, 584, 585, 591, 528, 529, 93, 592, 593, 95] (by decide +kernel)) inX4) (iw_app iw_c_nextOf (iw_app iw_c_rowSize (iw_app iw_c_part (iw_app iw_x_waits iw_nil)))))
set_option maxRecDepth 20000 in
theorem iw_e_rowCell : ∀ w ∈ wsP_e_rowCell, w ∈ lw_tbl := by unfold wsP_e_rowCell; exact iw_cons (List.mem_of_getElem? (i := 609) (by decide +kernel)) (iw_app (iw_app (gx_pos [209] (by decide +kernel)) inX7) iw_nil)
