theorem iw_app {T a b : List Cond} (ha : ∀ w ∈ a, w ∈ T) (hb : ∀ w ∈ b, w ∈ T) : ∀ w ∈ a ++ b, w ∈ T := fun w h => (List.mem_append.mp h).elim (ha w) (hb w)
theorem iw_nil {T : List Cond} : ∀ w ∈ ([] : List Cond), w ∈ T := fun _ h => absurd h List.not_mem_nil
theorem iw_cons {T a : List Cond} {c : Cond} (hc : c ∈ T) (ha : ∀ w ∈ a, w ∈ T) : ∀ w ∈ c :: a, w ∈ T := List.forall_mem_cons.mpr ⟨hc, ha⟩
theorem gw_inP {big pre ws : List Cond} (h0 : ∀ w ∈ pre, w ∈ big) (hg : pre.all goodWord = true) (h1 : ∀ w ∈ ws, w ∈ big) (h2 : ws.all goodWord = true) : GoodIn big (pre ++ ws) := fun w hw => (List.mem_append.mp hw).elim (fun h => ⟨h0 w h, good_of_word (List.all_eq_true.mp hg w h)⟩) (fun h => ⟨h1 w h, good_of_word (List.all_eq_true.mp h2 w h)⟩)
def gTT : List (List Cond) := [k2_sels lw_privs, tables_1_1, tables_1_2, tables_1_3, tables_1_4, tables_1_5, tables_1_6]
theorem gTT_in : ∀ l ∈ gTT, ∀ w ∈ l, w ∈ lw_tbl := by
  unfold gTT lw_tbl tables_1
  refine List.forall_mem_cons.mpr ⟨fun w h => List.mem_append_left _ h, ?_⟩
  refine List.forall_mem_cons.mpr ⟨fun w h => List.mem_append_right _ (List.mem_append_left _ h), ?_⟩
  refine List.forall_mem_cons.mpr ⟨fun w h => List.mem_append_right _ (List.mem_append_right _ (List.mem_append_left _ h)), ?_⟩
  refine List.forall_mem_cons.mpr ⟨fun w h => List.mem_append_right _ (List.mem_append_right _ (List.mem_append_right _ (List.mem_append_left _ h))), ?_⟩
  refine List.forall_mem_cons.mpr ⟨fun w h => List.mem_append_right _ (List.mem_append_right _ (List.mem_append_right _ (List.mem_append_right _ (List.mem_append_left _ h)))), ?_⟩
  refine List.forall_mem_cons.mpr ⟨fun w h => List.mem_append_right _ (List.mem_append_right _ (List.mem_append_right _ (List.mem_append_right _ (List.mem_append_right _ (List.mem_append_left _ h))))), ?_⟩
  refine List.forall_mem_cons.mpr ⟨fun w h => List.mem_append_right _ (List.mem_append_right _ (List.mem_append_right _ (List.mem_append_right _ (List.mem_append_right _ (List.mem_append_right _ (h)))))), ?_⟩
  exact fun _ h => absurd h List.not_mem_nil
theorem gTb_m {c i : Nat} {w : Cond} (h : (gTT[c]?).bind (fun l => l[i]?) = some w) : w ∈ lw_tbl := by
  cases hl : gTT[c]? with
  | none =>
    rw [hl] at h
    exact absurd (show (none : Option Cond) = some w from h) (by simp)
  | some l =>
    rw [hl] at h
    exact gTT_in l (List.mem_of_getElem? hl) w (List.mem_of_getElem? (show l[i]? = some w from h))
theorem gx_posT {ws : List Cond} (ps : List (Nat × Nat)) (hp : ws = ps.filterMap (fun q => (gTT[q.1]?).bind (fun l => l[q.2]?))) : ∀ w ∈ ws, w ∈ lw_tbl := by
  intro w hw
  rw [hp] at hw
  obtain ⟨q, -, hq⟩ := List.mem_filterMap.mp hw
  exact gTb_m hq
theorem inX0 : ∀ w ∈ wsX00, w ∈ lw_tbl := gx_posT [(1, 214), (1, 216), (1, 218), (1, 220), (1, 222), (1, 224)] rfl
theorem inX1 : ∀ w ∈ wsX10, w ∈ lw_tbl := gx_posT [(3, 132), (3, 134), (3, 136), (3, 138), (3, 140), (3, 142), (3, 144), (3, 146), (3, 148), (3, 150)] rfl
theorem inX2 : ∀ w ∈ wsX20, w ∈ lw_tbl := gx_posT [(1, 159), (1, 161), (1, 163), (1, 165), (1, 167)] rfl
theorem inX3 : ∀ w ∈ wsX30, w ∈ lw_tbl := gx_posT [(1, 133), (1, 135), (1, 137), (1, 139), (1, 141)] rfl
theorem inX4 : ∀ w ∈ wsX40, w ∈ lw_tbl := gx_posT [(1, 55), (1, 57), (1, 59), (1, 61)] rfl
theorem inX5 : ∀ w ∈ wsX50, w ∈ lw_tbl := gx_posT [(1, 185), (1, 187), (1, 189), (1, 191), (1, 193), (1, 195), (1, 197)] rfl
theorem inX6 : ∀ w ∈ wsX60, w ∈ lw_tbl := gx_posT [(1, 80), (1, 82), (1, 84), (1, 86), (1, 88), (1, 90), (1, 92), (1, 94), (1, 96), (1, 98), (1, 100), (1, 102)] rfl
theorem inX7 : ∀ w ∈ wsX70, w ∈ lw_tbl := gx_posT [(1, 122)] rfl
theorem inX8 : ∀ w ∈ wsX80, w ∈ lw_tbl := gx_posT [(1, 239), (2, 1), (2, 3), (2, 5), (2, 7), (2, 9), (2, 11), (2, 13), (2, 15), (2, 17), (2, 19), (2, 21)] rfl
theorem inX9 : ∀ w ∈ wsX90, w ∈ lw_tbl := gx_posT [(4, 211), (4, 213), (4, 215), (4, 217), (4, 219), (4, 221), (4, 223), (4, 225), (4, 227), (4, 229), (4, 231), (4, 233), (4, 235), (4, 237), (4, 239), (5, 1), (5, 3), (5, 5), (5, 7), (5, 9), (5, 11), (5, 13), (5, 15), (5, 17), (5, 19), (5, 21), (5, 23), (5, 25), (5, 27), (5, 29), (5, 31), (5, 33), (5, 35), (5, 37), (5, 39), (5, 41), (5, 43), (5, 45), (5, 47), (5, 49), (5, 51), (5, 53), (5, 55), (5, 57), (5, 59), (5, 61), (5, 63), (5, 65), (5, 67), (5, 69), (5, 71), (5, 73)] rfl
set_option maxRecDepth 20000 in
theorem iw_x_X8_feedWord : ∀ w ∈ wsP_x_X8_feedWord, w ∈ lw_tbl := by unfold wsP_x_X8_feedWord; exact iw_cons (gTb_m (c := 2) (i := 31) rfl) (iw_app (iw_app (gx_posT [(1, 228), (1, 227)] rfl) inX8) iw_nil)
set_option maxRecDepth 20000 in
theorem iw_x_X8_feed : ∀ w ∈ wsP_x_X8_feed, w ∈ lw_tbl := by unfold wsP_x_X8_feed; exact iw_cons (gTb_m (c := 2) (i := 27) rfl) (iw_app (iw_app (gx_posT [(1, 228), (2, 28), (2, 30), (0, 0), (1, 1)] rfl) inX8) (iw_app iw_x_X8_feedWord iw_nil))
set_option maxRecDepth 20000 in
theorem iw_c_X8_back : ∀ w ∈ wsP_c_X8_back, w ∈ lw_tbl := by unfold wsP_c_X8_back; exact iw_cons (gTb_m (c := 2) (i := 35) rfl) (iw_app (gx_posT [(1, 228)] rfl) inX8)
set_option maxRecDepth 20000 in
theorem iw_x_blanks : ∀ w ∈ wsP_x_blanks, w ∈ lw_tbl := by unfold wsP_x_blanks; exact iw_cons (gTb_m (c := 2) (i := 50) rfl) (iw_app iw_nil iw_nil)
set_option maxRecDepth 20000 in
theorem iw_c_isLetter : ∀ w ∈ wsP_c_isLetter, w ∈ lw_tbl := by unfold wsP_c_isLetter; exact iw_cons (gTb_m (c := 2) (i := 56) rfl) iw_nil
set_option maxRecDepth 20000 in
theorem iw_c_isDigit : ∀ w ∈ wsP_c_isDigit, w ∈ lw_tbl := by unfold wsP_c_isDigit; exact iw_cons (gTb_m (c := 2) (i := 59) rfl) iw_nil
set_option maxRecDepth 20000 in
theorem iw_x_run : ∀ w ∈ wsP_x_run, w ∈ lw_tbl := by unfold wsP_x_run; exact iw_cons (gTb_m (c := 2) (i := 53) rfl) (iw_app (gx_posT [(2, 54), (2, 55), (1, 2), (2, 57), (2, 58), (1, 2)] rfl) (iw_app iw_c_isLetter (iw_app iw_c_isDigit iw_nil)))
set_option maxRecDepth 20000 in
theorem iw_c_lat : ∀ w ∈ wsP_c_lat, w ∈ lw_tbl := by unfold wsP_c_lat; exact iw_cons (gTb_m (c := 2) (i := 77) rfl) (iw_app (gx_posT [(2, 78), (6, 160)] rfl) iw_nil)
set_option maxRecDepth 20000 in
theorem iw_c_chk3N : ∀ w ∈ wsP_c_chk3N, w ∈ lw_tbl := by unfold wsP_c_chk3N; exact iw_cons (gTb_m (c := 2) (i := 90) rfl) (iw_app iw_nil iw_nil)
set_option maxRecDepth 20000 in
theorem iw_c_chk3R : ∀ w ∈ wsP_c_chk3R, w ∈ lw_tbl := by unfold wsP_c_chk3R; exact iw_cons (gTb_m (c := 2) (i := 90) rfl) (iw_app iw_nil iw_nil)
set_option maxRecDepth 20000 in
theorem iw_c_chk0 : ∀ w ∈ wsP_c_chk0, w ∈ lw_tbl := by unfold wsP_c_chk0; exact iw_cons (gTb_m (c := 2) (i := 85) rfl) (iw_app (gx_posT [(2, 86), (2, 88), (2, 89), (1, 12)] rfl) (iw_app iw_c_chk3N (iw_app iw_c_chk3R iw_nil)))
set_option maxRecDepth 20000 in
theorem iw_c_chr1 : ∀ w ∈ wsP_c_chr1, w ∈ lw_tbl := by unfold wsP_c_chr1; exact iw_cons (gTb_m (c := 2) (i := 82) rfl) (iw_app (gx_posT [(2, 83), (2, 84), (1, 10)] rfl) (iw_app iw_c_chk0 iw_nil))
set_option maxRecDepth 20000 in
theorem iw_c_charAt : ∀ w ∈ wsP_c_charAt, w ∈ lw_tbl := by unfold wsP_c_charAt; exact iw_cons (gTb_m (c := 2) (i := 73) rfl) (iw_app (gx_posT [(2, 74), (2, 75), (2, 76), (1, 10), (6, 161), (2, 80), (2, 81), (1, 11)] rfl) (iw_app iw_c_lat (iw_app iw_c_chr1 iw_nil)))
set_option maxRecDepth 20000 in
theorem iw_e_xWord : ∀ w ∈ wsP_e_xWord, w ∈ lw_tbl := by unfold wsP_e_xWord; exact iw_cons (gTb_m (c := 2) (i := 68) rfl) (iw_app (gx_posT [(2, 70), (2, 71), (2, 72), (1, 10)] rfl) (iw_app iw_c_charAt iw_nil))
set_option maxRecDepth 20000 in
theorem iw_e_wordKind : ∀ w ∈ wsP_e_wordKind, w ∈ lw_tbl := by unfold wsP_e_wordKind; exact iw_cons (gTb_m (c := 2) (i := 65) rfl) (iw_app (gx_posT [(2, 66), (2, 67), (1, 2)] rfl) (iw_app iw_e_xWord iw_nil))
set_option maxRecDepth 20000 in
theorem iw_e_kindOf : ∀ w ∈ wsP_e_kindOf, w ∈ lw_tbl := by unfold wsP_e_kindOf; exact iw_cons (gTb_m (c := 2) (i := 62) rfl) (iw_app (gx_posT [(2, 54), (2, 55), (1, 2), (2, 57), (2, 58), (1, 2), (2, 63), (2, 64), (1, 2)] rfl) (iw_app iw_c_isLetter (iw_app iw_c_isDigit (iw_app iw_e_wordKind iw_nil))))
set_option maxRecDepth 20000 in
theorem iw_x_num : ∀ w ∈ wsP_x_num, w ∈ lw_tbl := by unfold wsP_x_num; exact iw_cons (gTb_m (c := 2) (i := 112) rfl) (iw_app iw_nil iw_nil)
set_option maxRecDepth 20000 in
theorem iw_x_scan : ∀ w ∈ wsP_x_scan, w ∈ lw_tbl := by unfold wsP_x_scan; exact iw_cons (gTb_m (c := 2) (i := 47) rfl) (iw_app (iw_app (gx_posT [(2, 48), (2, 49), (1, 2), (1, 73), (2, 51), (2, 52), (1, 2), (1, 72), (2, 60), (2, 61), (1, 2), (1, 74), (2, 110), (2, 111), (1, 2)] rfl) inX6) (iw_app iw_x_blanks (iw_app iw_x_run (iw_app iw_e_kindOf (iw_app iw_x_num iw_nil)))))
set_option maxRecDepth 20000 in
theorem iw_c_clear : ∀ w ∈ wsP_c_clear, w ∈ lw_tbl := by unfold wsP_c_clear; exact iw_cons (gTb_m (c := 2) (i := 116) rfl) (iw_app (gx_posT [(1, 39), (1, 44), (2, 117), (2, 118), (1, 14), (2, 119), (1, 49)] rfl) inX4)
set_option maxRecDepth 20000 in
theorem iw_c_fail : ∀ w ∈ wsP_c_fail, w ∈ lw_tbl := by unfold wsP_c_fail; exact iw_cons (gTb_m (c := 2) (i := 135) rfl) (iw_app (gx_posT [(1, 70), (1, 73), (1, 76), (1, 68)] rfl) inX6)
set_option maxRecDepth 20000 in
theorem iw_x_take : ∀ w ∈ wsP_x_take, w ∈ lw_tbl := by unfold wsP_x_take; exact iw_cons (gTb_m (c := 2) (i := 131) rfl) (iw_app (iw_app (gx_posT [(1, 72), (1, 76), (2, 132), (2, 134), (0, 5), (1, 2)] rfl) inX6) (iw_app iw_c_fail iw_nil))
set_option maxRecDepth 20000 in
theorem iw_x_noteLate : ∀ w ∈ wsP_x_noteLate, w ∈ lw_tbl := by unfold wsP_x_noteLate; exact iw_cons (gTb_m (c := 2) (i := 143) rfl) (iw_app (iw_app (gx_posT [(1, 71), (1, 73)] rfl) inX6) iw_nil)
set_option maxRecDepth 20000 in
theorem iw_x_takeCell : ∀ w ∈ wsP_x_takeCell, w ∈ lw_tbl := by unfold wsP_x_takeCell; exact iw_cons (gTb_m (c := 2) (i := 139) rfl) (iw_app (iw_app (gx_posT [(1, 74), (1, 76), (1, 79), (2, 128), (2, 130), (0, 4), (1, 2), (2, 140), (2, 142), (0, 7)] rfl) inX6) (iw_app iw_x_take (iw_app iw_x_noteLate iw_nil)))
set_option maxRecDepth 20000 in
theorem iw_x_takeVal0 : ∀ w ∈ wsP_x_takeVal0, w ∈ lw_tbl := by unfold wsP_x_takeVal0; exact iw_cons (gTb_m (c := 2) (i := 147) rfl) (iw_app (iw_app (gx_posT [(1, 72), (1, 76), (1, 78), (1, 74), (1, 79), (2, 128), (2, 130), (0, 4), (1, 2)] rfl) inX6) (iw_app iw_x_take iw_nil))
set_option maxRecDepth 20000 in
theorem iw_x_readCellLine : ∀ w ∈ wsP_x_readCellLine, w ∈ lw_tbl := by unfold wsP_x_readCellLine; exact iw_cons (gTb_m (c := 2) (i := 127) rfl) (iw_app (iw_app (iw_app (gx_posT [(2, 128), (2, 130), (0, 4), (1, 2), (2, 136), (2, 138), (0, 6), (1, 79), (1, 76), (2, 144), (2, 146), (0, 8), (1, 77), (1, 66), (1, 51), (2, 140), (2, 142), (0, 7)] rfl) inX6) inX4) (iw_app iw_x_take (iw_app iw_x_takeCell (iw_app iw_x_takeVal0 (iw_app iw_x_noteLate iw_nil)))))
set_option maxRecDepth 20000 in
theorem iw_x_readCells : ∀ w ∈ wsP_x_readCells, w ∈ lw_tbl := by unfold wsP_x_readCells; exact iw_cons (gTb_m (c := 2) (i := 123) rfl) (iw_app (iw_app (gx_posT [(1, 72), (1, 76), (2, 124), (2, 126), (0, 3), (1, 2)] rfl) inX6) (iw_app iw_x_readCellLine iw_nil))
set_option maxRecDepth 20000 in
theorem iw_c_part : ∀ w ∈ wsP_c_part, w ∈ lw_tbl := by unfold wsP_c_part; exact iw_cons (gTb_m (c := 2) (i := 200) rfl) (iw_app (gx_posT [(1, 52), (2, 160), (2, 161), (1, 3), (2, 162)] rfl) inX4)
set_option maxRecDepth 20000 in
theorem iw_x_checkSkips : ∀ w ∈ wsP_x_checkSkips, w ∈ lw_tbl := by unfold wsP_x_checkSkips; exact iw_cons (gTb_m (c := 2) (i := 196) rfl) (iw_app (iw_app (iw_app (gx_posT [(1, 66), (1, 48), (2, 197), (2, 198), (2, 199), (1, 3), (1, 75), (2, 140), (2, 142), (0, 7), (1, 2)] rfl) inX6) inX4) (iw_app iw_c_part (iw_app iw_x_noteLate iw_nil)))
set_option maxRecDepth 20000 in
theorem iw_c_addBlank : ∀ w ∈ wsP_c_addBlank, w ∈ lw_tbl := by unfold wsP_c_addBlank; exact iw_cons (gTb_m (c := 2) (i := 159) rfl) (iw_app (gx_posT [(1, 44), (2, 160), (2, 161), (1, 3), (2, 162), (1, 52)] rfl) inX4)
set_option maxRecDepth 20000 in
theorem iw_c_shapeOf : ∀ w ∈ wsP_c_shapeOf, w ∈ lw_tbl := by unfold wsP_c_shapeOf; exact iw_cons (gTb_m (c := 2) (i := 165) rfl) (iw_app iw_nil iw_nil)
set_option maxRecDepth 20000 in
theorem iw_c_coder : ∀ w ∈ wsP_c_coder, w ∈ lw_tbl := by unfold wsP_c_coder; exact iw_cons (gTb_m (c := 2) (i := 180) rfl) (iw_app (gx_posT [(2, 78), (6, 160)] rfl) iw_nil)
set_option maxRecDepth 20000 in
theorem iw_c_length : ∀ w ∈ wsP_c_length, w ∈ lw_tbl := by unfold wsP_c_length; exact iw_cons (gTb_m (c := 2) (i := 176) rfl) (iw_app (gx_posT [(6, 161), (2, 177), (2, 178), (2, 179), (1, 10)] rfl) (iw_app iw_c_coder iw_nil))
set_option maxRecDepth 20000 in
theorem iw_x_takeReg : ∀ w ∈ wsP_x_takeReg, w ∈ lw_tbl := by unfold wsP_x_takeReg; exact iw_cons (gTb_m (c := 2) (i := 188) rfl) (iw_app (iw_app (gx_posT [(1, 72), (1, 76), (2, 132), (2, 134), (0, 5), (1, 2), (1, 78), (2, 128), (2, 130), (0, 4)] rfl) inX6) (iw_app iw_c_fail (iw_app iw_x_take iw_nil)))
set_option maxRecDepth 20000 in
theorem iw_x_partR : ∀ w ∈ wsP_x_partR, w ∈ lw_tbl := by unfold wsP_x_partR; exact iw_cons (gTb_m (c := 2) (i := 184) rfl) (iw_app (iw_app (iw_app (gx_posT [(2, 185), (2, 187), (0, 12), (1, 2), (1, 66), (1, 54), (1, 78)] rfl) inX6) inX4) (iw_app iw_x_takeReg iw_nil))
set_option maxRecDepth 20000 in
theorem iw_x_partC : ∀ w ∈ wsP_x_partC, w ∈ lw_tbl := by unfold wsP_x_partC; exact iw_cons (gTb_m (c := 2) (i := 184) rfl) (iw_app (iw_app (iw_app (gx_posT [(2, 136), (2, 138), (0, 6), (1, 2), (1, 66), (1, 54), (1, 79)] rfl) inX6) inX4) (iw_app iw_x_takeCell iw_nil))
set_option maxRecDepth 20000 in
theorem iw_x_takeVal1 : ∀ w ∈ wsP_x_takeVal1, w ∈ lw_tbl := by unfold wsP_x_takeVal1; exact iw_cons (gTb_m (c := 2) (i := 147) rfl) (iw_app (iw_app (gx_posT [(1, 72), (1, 76), (1, 78), (1, 74), (1, 79), (2, 128), (2, 130), (0, 4), (1, 2)] rfl) inX6) (iw_app iw_x_take iw_nil))
set_option maxRecDepth 20000 in
theorem iw_x_partV : ∀ w ∈ wsP_x_partV, w ∈ lw_tbl := by unfold wsP_x_partV; exact iw_cons (gTb_m (c := 2) (i := 184) rfl) (iw_app (iw_app (iw_app (gx_posT [(2, 144), (2, 146), (0, 8), (1, 2), (1, 66), (1, 54), (1, 78), (1, 79)] rfl) inX6) inX4) (iw_app iw_x_takeVal1 iw_nil))
set_option maxRecDepth 20000 in
theorem iw_x_partW : ∀ w ∈ wsP_x_partW, w ∈ lw_tbl := by unfold wsP_x_partW; exact iw_cons (gTb_m (c := 2) (i := 184) rfl) (iw_app (iw_app (iw_app (gx_posT [(2, 144), (2, 146), (0, 8), (1, 2), (1, 66), (1, 54), (1, 78), (1, 79)] rfl) inX6) inX4) (iw_app iw_x_takeVal1 iw_nil))
set_option maxRecDepth 20000 in
theorem iw_x_takeSkip : ∀ w ∈ wsP_x_takeSkip, w ∈ lw_tbl := by unfold wsP_x_takeSkip; exact iw_cons (gTb_m (c := 2) (i := 192) rfl) (iw_app (iw_app (gx_posT [(2, 128), (2, 130), (0, 4), (1, 2), (1, 74), (1, 76), (1, 79)] rfl) inX6) (iw_app iw_x_take iw_nil))
set_option maxRecDepth 20000 in
theorem iw_x_partS : ∀ w ∈ wsP_x_partS, w ∈ lw_tbl := by unfold wsP_x_partS; exact iw_cons (gTb_m (c := 2) (i := 184) rfl) (iw_app (iw_app (iw_app (gx_posT [(2, 189), (2, 191), (0, 13), (1, 2), (1, 66), (1, 54), (1, 79)] rfl) inX6) inX4) (iw_app iw_x_takeSkip iw_nil))
set_option maxRecDepth 20000 in
theorem iw_x_readIns : ∀ w ∈ wsP_x_readIns, w ∈ lw_tbl := by unfold wsP_x_readIns; exact iw_cons (gTb_m (c := 2) (i := 155) rfl) (iw_app (iw_app (gx_posT [(1, 72), (1, 76), (2, 128), (2, 130), (0, 4), (1, 2), (1, 66), (2, 156), (2, 157), (2, 158), (1, 3), (2, 163), (2, 164), (1, 2), (2, 173), (2, 174), (2, 175), (1, 10), (2, 70), (2, 71), (2, 72), (2, 181), (2, 183), (0, 11), (1, 75)] rfl) inX6) (iw_app iw_x_take (iw_app iw_c_addBlank (iw_app iw_c_shapeOf (iw_app iw_c_length (iw_app iw_c_charAt (iw_app iw_x_partR (iw_app iw_x_partC (iw_app iw_x_partV (iw_app iw_x_partW (iw_app iw_x_partS iw_nil)))))))))))
set_option maxRecDepth 20000 in
theorem iw_x_readCores : ∀ w ∈ wsP_x_readCores, w ∈ lw_tbl := by unfold wsP_x_readCores; exact iw_cons (gTb_m (c := 2) (i := 151) rfl) (iw_app (iw_app (iw_app (gx_posT [(1, 72), (1, 76), (2, 132), (2, 134), (0, 5), (1, 2), (1, 66), (1, 43), (2, 128), (2, 130), (0, 4), (2, 193), (2, 195), (0, 14), (2, 152), (2, 154), (0, 10)] rfl) inX6) inX4) (iw_app iw_c_fail (iw_app iw_x_take (iw_app iw_x_checkSkips (iw_app iw_x_readIns iw_nil)))))
set_option maxRecDepth 20000 in
theorem iw_x_readText : ∀ w ∈ wsP_x_readText, w ∈ lw_tbl := by unfold wsP_x_readText; exact iw_cons (gTb_m (c := 2) (i := 43) rfl) (iw_app (iw_app (gx_posT [(2, 44), (2, 46), (0, 1), (1, 2), (1, 70), (1, 68), (1, 71), (1, 76), (1, 77), (1, 66), (2, 113), (2, 114), (2, 115), (1, 3), (2, 120), (2, 122), (0, 2), (2, 148), (2, 150), (0, 9)] rfl) inX6) (iw_app iw_x_scan (iw_app iw_c_clear (iw_app iw_x_readCells (iw_app iw_x_readCores iw_nil)))))
set_option maxRecDepth 20000 in
theorem iw_c_forgetSearch : ∀ w ∈ wsP_c_forgetSearch, w ∈ lw_tbl := by unfold wsP_c_forgetSearch; exact iw_cons (gTb_m (c := 2) (i := 208) rfl) (iw_app (gx_posT [(1, 209), (1, 210)] rfl) inX0)
set_option maxRecDepth 20000 in
theorem iw_c_forgetFindings : ∀ w ∈ wsP_c_forgetFindings, w ∈ lw_tbl := by unfold wsP_c_forgetFindings; exact iw_cons (gTb_m (c := 2) (i := 204) rfl) (iw_app (iw_app (iw_app (iw_app (iw_app (gx_posT [(1, 233), (1, 128), (1, 235), (1, 151), (1, 236), (1, 237), (1, 177), (1, 238), (2, 205), (2, 206), (2, 207), (1, 8)] rfl) inX8) inX3) inX2) inX5) (iw_app iw_c_forgetSearch iw_nil))
set_option maxRecDepth 20000 in
theorem iw_x_read8 : ∀ w ∈ wsP_x_read8, w ∈ lw_tbl := by unfold wsP_x_read8; exact iw_cons (gTb_m (c := 2) (i := 39) rfl) (iw_app (iw_app (iw_app (gx_posT [(1, 229), (1, 227), (1, 228), (2, 40), (2, 41), (2, 42), (1, 2), (1, 69), (1, 230), (1, 232), (1, 67), (1, 231), (2, 201), (2, 203), (0, 15), (1, 1)] rfl) inX8) inX6) (iw_app iw_x_readText (iw_app iw_c_forgetFindings iw_nil)))
set_option maxRecDepth 20000 in
theorem iw_x_place8 : ∀ w ∈ wsP_x_place8, w ∈ lw_tbl := by unfold wsP_x_place8; exact iw_cons (gTb_m (c := 2) (i := 212) rfl) (iw_app (iw_app (gx_posT [(1, 230)] rfl) inX8) iw_nil)
set_option maxRecDepth 20000 in
theorem iw_x_hasCore : ∀ w ∈ wsP_x_hasCore, w ∈ lw_tbl := by unfold wsP_x_hasCore; exact iw_cons (gTb_m (c := 2) (i := 220) rfl) (iw_app (iw_app (iw_app (gx_posT [(1, 231), (1, 232), (1, 42)] rfl) inX8) inX4) iw_nil)
set_option maxRecDepth 20000 in
theorem iw_x_ins8 : ∀ w ∈ wsP_x_ins8, w ∈ lw_tbl := by unfold wsP_x_ins8; exact iw_cons (gTb_m (c := 2) (i := 216) rfl) (iw_app (iw_app (iw_app (gx_posT [(2, 217), (2, 219), (0, 16), (1, 1), (1, 232), (1, 46), (2, 221), (2, 198), (2, 199), (1, 3)] rfl) inX8) inX4) (iw_app iw_x_hasCore (iw_app iw_c_part iw_nil)))
set_option maxRecDepth 20000 in
theorem iw_x_isMode : ∀ w ∈ wsP_x_isMode, w ∈ lw_tbl := by unfold wsP_x_isMode; exact iw_cons (gTb_m (c := 2) (i := 228) rfl) (iw_app iw_nil iw_nil)
set_option maxRecDepth 20000 in
theorem iw_c_fill : ∀ w ∈ wsP_c_fill, w ∈ lw_tbl := by unfold wsP_c_fill; exact iw_cons (gTb_m (c := 2) (i := 119) rfl) iw_nil
set_option maxRecDepth 20000 in
theorem iw_e_start : ∀ w ∈ wsP_e_start, w ∈ lw_tbl := by unfold wsP_e_start; exact iw_cons (gTb_m (c := 2) (i := 236) rfl) (iw_app (iw_app (iw_app (gx_posT [(1, 119), (2, 237), (2, 118), (1, 14), (1, 50), (2, 238), (3, 0), (2, 239), (1, 15)] rfl) inX7) inX4) (iw_app iw_c_fill iw_nil))
set_option maxRecDepth 20000 in
theorem iw_e_mstart : ∀ w ∈ wsP_e_mstart, w ∈ lw_tbl := by unfold wsP_e_mstart; exact iw_cons (gTb_m (c := 2) (i := 232) rfl) (iw_app (iw_app (gx_posT [(1, 127), (1, 131), (1, 129), (1, 125), (2, 233), (2, 234), (2, 235), (1, 5)] rfl) inX3) (iw_app iw_e_start iw_nil))
set_option maxRecDepth 20000 in
theorem iw_y_begin8 : ∀ w ∈ wsP_y_begin8, w ∈ lw_tbl := by unfold wsP_y_begin8; exact iw_cons (gTb_m (c := 2) (i := 225) rfl) (iw_app (iw_app (gx_posT [(1, 231), (2, 226), (2, 227), (1, 1), (1, 233), (1, 232), (2, 229), (2, 230), (2, 231), (1, 4)] rfl) inX8) (iw_app iw_x_isMode (iw_app iw_e_mstart iw_nil)))
set_option maxRecDepth 20000 in
theorem iw_c_nextOf : ∀ w ∈ wsP_c_nextOf, w ∈ lw_tbl := by unfold wsP_c_nextOf; exact iw_cons (gTb_m (c := 3) (i := 20) rfl) (iw_app (gx_posT [(1, 119)] rfl) inX7)
set_option maxRecDepth 20000 in
theorem iw_c_rowSize : ∀ w ∈ wsP_c_rowSize, w ∈ lw_tbl := by unfold wsP_c_rowSize; exact iw_cons (gTb_m (c := 3) (i := 16) rfl) (iw_app (gx_posT [(1, 119)] rfl) inX7)
set_option maxRecDepth 20000 in
theorem iw_x_isLocked : ∀ w ∈ wsP_x_isLocked, w ∈ lw_tbl := by unfold wsP_x_isLocked; exact iw_cons (gTb_m (c := 3) (i := 27) rfl) (iw_app iw_nil iw_nil)
set_option maxRecDepth 20000 in
theorem iw_x_waits : ∀ w ∈ wsP_x_waits, w ∈ lw_tbl := by unfold wsP_x_waits; exact iw_cons (gTb_m (c := 3) (i := 24) rfl) (iw_app (gx_posT [(3, 25), (3, 26), (1, 5)] rfl) (iw_app iw_x_isLocked iw_nil))
set_option maxRecDepth 20000 in
theorem iw_x_can8 : ∀ w ∈ wsP_x_can8, w ∈ lw_tbl := by unfold wsP_x_can8; exact iw_cons (gTb_m (c := 3) (i := 12) rfl) (iw_app (iw_app (gx_posT [(1, 40), (3, 17), (3, 18), (3, 19), (1, 5), (1, 47), (3, 13), (3, 14), (3, 15), (3, 21), (2, 198), (2, 199), (1, 3), (3, 22), (3, 23), (1, 5)] rfl) inX4) (iw_app iw_c_nextOf (iw_app iw_c_rowSize (iw_app iw_c_part (iw_app iw_x_waits iw_nil)))))
set_option maxRecDepth 20000 in
theorem iw_e_rowCell : ∀ w ∈ wsP_e_rowCell, w ∈ lw_tbl := by unfold wsP_e_rowCell; exact iw_cons (gTb_m (c := 3) (i := 39) rfl) (iw_app (iw_app (gx_posT [(1, 119)] rfl) inX7) iw_nil)
