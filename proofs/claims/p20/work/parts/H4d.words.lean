set_option maxRecDepth 20000 in
theorem iw_x_isRegister9 : ∀ w ∈ wsP_x_isRegister9, w ∈ lw_tbl := by unfold wsP_x_isRegister9; exact iw_cons (gTb_m (c := 5) (i := 175) rfl) (iw_app (iw_app (gx_posT [(4, 190), (4, 193), (5, 176), (5, 177)] rfl) inX9) iw_nil)
set_option maxRecDepth 20000 in
theorem iw_x_register9 : ∀ w ∈ wsP_x_register9, w ∈ lw_tbl := by unfold wsP_x_register9; exact iw_cons (gTb_m (c := 5) (i := 181) rfl) (iw_app (iw_app (gx_posT [(5, 172), (5, 174), (0, 55), (1, 9), (4, 163), (4, 198), (4, 193), (5, 118), (5, 120), (0, 45), (4, 191), (5, 122), (5, 124), (0, 46)] rfl) inX9) (iw_app iw_x_isRegister9 (iw_app iw_x_pass9 (iw_app iw_c_stop9 iw_nil))))
set_option maxRecDepth 20000 in
theorem iw_x_whole9 : ∀ w ∈ wsP_x_whole9, w ∈ lw_tbl := by unfold wsP_x_whole9; exact iw_cons (gTb_m (c := 5) (i := 133) rfl) (iw_app (iw_app (gx_posT [(4, 190), (4, 191), (4, 197), (4, 196), (4, 192), (5, 118), (5, 120), (0, 45), (1, 9), (4, 186), (5, 122), (5, 124), (0, 46)] rfl) inX9) (iw_app iw_x_pass9 (iw_app iw_c_stop9 iw_nil)))
set_option maxRecDepth 20000 in
theorem iw_x_cell9 : ∀ w ∈ wsP_x_cell9, w ∈ lw_tbl := by unfold wsP_x_cell9; exact iw_cons (gTb_m (c := 5) (i := 129) rfl) (iw_app (iw_app (gx_posT [(5, 130), (5, 132), (0, 48), (1, 9), (4, 196), (4, 162), (4, 198), (4, 197), (5, 134), (5, 136), (0, 49)] rfl) inX9) (iw_app iw_x_whole9 (iw_app iw_x_tell9 iw_nil)))
set_option maxRecDepth 20000 in
theorem iw_x_integer9 : ∀ w ∈ wsP_x_integer9, w ∈ lw_tbl := by unfold wsP_x_integer9; exact iw_cons (gTb_m (c := 5) (i := 145) rfl) (iw_app (iw_app (gx_posT [(4, 190), (5, 130), (5, 132), (0, 48), (1, 9), (4, 196), (4, 193), (5, 146), (5, 118), (5, 120), (0, 45)] rfl) inX9) (iw_app iw_x_whole9 (iw_app iw_x_pass9 iw_nil)))
set_option maxRecDepth 20000 in
theorem iw_x_value90 : ∀ w ∈ wsP_x_value90, w ∈ lw_tbl := by unfold wsP_x_value90; exact iw_cons (gTb_m (c := 5) (i := 171) rfl) (iw_app (iw_app (gx_posT [(5, 172), (5, 174), (0, 55), (1, 9), (4, 196), (5, 142), (5, 144), (0, 51), (4, 164), (4, 198), (4, 165), (4, 193), (5, 118), (5, 120), (0, 45)] rfl) inX9) (iw_app iw_x_isRegister9 (iw_app iw_x_integer9 (iw_app iw_x_pass9 iw_nil))))
set_option maxRecDepth 20000 in
theorem iw_x_value91 : ∀ w ∈ wsP_x_value91, w ∈ lw_tbl := by unfold wsP_x_value91; exact iw_cons (gTb_m (c := 5) (i := 171) rfl) (iw_app (iw_app (gx_posT [(5, 172), (5, 174), (0, 55), (1, 9), (4, 196), (5, 142), (5, 144), (0, 51), (4, 166), (4, 198), (4, 167), (4, 193), (5, 118), (5, 120), (0, 45)] rfl) inX9) (iw_app iw_x_isRegister9 (iw_app iw_x_integer9 (iw_app iw_x_pass9 iw_nil))))
set_option maxRecDepth 20000 in
theorem iw_x_instruction9 : ∀ w ∈ wsP_x_instruction9, w ∈ lw_tbl := by unfold wsP_x_instruction9; exact iw_cons (gTb_m (c := 5) (i := 167) rfl) (iw_app (iw_app (gx_posT [(4, 161), (4, 198), (5, 178), (5, 180), (0, 56), (1, 9), (5, 126), (5, 128), (0, 47), (5, 168), (5, 170), (0, 54), (5, 182), (5, 183), (5, 185), (0, 57), (5, 130), (5, 132), (0, 48), (4, 168), (4, 196), (4, 199), (4, 197)] rfl) inX9) (iw_app iw_x_register9 (iw_app iw_x_cell9 (iw_app iw_x_value90 (iw_app iw_x_words9 (iw_app iw_x_whole9 (iw_app iw_x_value91 iw_nil)))))))
set_option maxRecDepth 20000 in
theorem iw_x_core9 : ∀ w ∈ wsP_x_core9, w ∈ lw_tbl := by unfold wsP_x_core9; exact iw_cons (gTb_m (c := 5) (i := 151) rfl) (iw_app (iw_app (gx_posT [(4, 159), (5, 118), (5, 120), (0, 45), (1, 9), (5, 138), (5, 140), (0, 50), (4, 190), (5, 187), (5, 183), (5, 185), (0, 57), (4, 160), (4, 199), (4, 168), (5, 134), (5, 136), (0, 49), (4, 193), (5, 152), (5, 153), (1, 9), (4, 198), (4, 161), (4, 162), (4, 163), (4, 164), (4, 165), (4, 166), (4, 167), (5, 164), (5, 166), (0, 53), (4, 191), (5, 122), (5, 124), (0, 46)] rfl) inX9) (iw_app iw_x_pass9 (iw_app iw_x_sign9 (iw_app iw_x_words9 (iw_app iw_x_tell9 (iw_app iw_c_began9 (iw_app iw_x_instruction9 (iw_app iw_c_stop9 iw_nil))))))))
set_option maxRecDepth 20000 in
theorem iw_x_text9 : ∀ w ∈ wsP_x_text9, w ∈ lw_tbl := by unfold wsP_x_text9; exact iw_cons (gTb_m (c := 5) (i := 112) rfl) (iw_app (iw_app (gx_posT [(5, 113), (5, 114), (5, 116), (0, 44), (1, 9), (5, 147), (4, 159), (5, 148), (5, 150), (0, 52), (4, 190), (4, 191), (5, 122), (5, 124), (0, 46), (4, 198), (5, 118), (5, 120), (0, 45), (5, 126), (5, 128), (0, 47), (4, 196), (5, 138), (5, 140), (0, 50), (5, 142), (5, 144), (0, 51), (4, 169), (4, 197), (5, 134), (5, 136), (0, 49)] rfl) inX9) (iw_app iw_x_isWord9 (iw_app iw_x_core9 (iw_app iw_c_stop9 (iw_app iw_x_pass9 (iw_app iw_x_cell9 (iw_app iw_x_sign9 (iw_app iw_x_integer9 (iw_app iw_x_tell9 iw_nil)))))))))
set_option maxRecDepth 20000 in
theorem iw_c_copyIns9 : ∀ w ∈ wsP_c_copyIns9, w ∈ lw_tbl := by unfold wsP_c_copyIns9; exact iw_cons (gTb_m (c := 5) (i := 195) rfl) (iw_app (iw_app (gx_posT [(4, 161), (4, 162), (4, 163), (4, 164), (4, 165), (4, 166), (4, 167), (4, 168)] rfl) inX9) iw_nil)
set_option maxRecDepth 20000 in
theorem iw_c_copyProgram9 : ∀ w ∈ wsP_c_copyProgram9, w ∈ lw_tbl := by unfold wsP_c_copyProgram9; exact iw_cons (gTb_m (c := 5) (i := 191) rfl) (iw_app (iw_app (gx_posT [(4, 159), (4, 160), (5, 192), (5, 194), (0, 59), (1, 9)] rfl) inX9) (iw_app iw_c_copyIns9 iw_nil))
set_option maxRecDepth 20000 in
theorem iw_y_read9 : ∀ w ∈ wsP_y_read9, w ∈ lw_tbl := by unfold wsP_y_read9; exact iw_cons (gTb_m (c := 5) (i := 92) rfl) (iw_app (iw_app (gx_posT [(4, 188), (4, 189), (4, 195), (4, 192), (4, 194), (5, 93), (5, 95), (0, 39), (1, 9), (4, 159), (5, 109), (5, 111), (0, 43), (4, 187), (5, 188), (5, 190), (0, 58), (4, 170), (4, 185), (4, 184), (4, 200), (4, 206), (4, 178), (4, 169)] rfl) inX9) (iw_app iw_x_token9 (iw_app iw_x_text9 (iw_app iw_c_copyProgram9 iw_nil))))
set_option maxRecDepth 20000 in
theorem iw_x_place9 : ∀ w ∈ wsP_x_place9, w ∈ lw_tbl := by unfold wsP_x_place9; exact iw_cons (gTb_m (c := 5) (i := 199) rfl) (iw_app (iw_app (gx_posT [(4, 189)] rfl) inX9) iw_nil)
set_option maxRecDepth 20000 in
theorem iw_x_ins9 : ∀ w ∈ wsP_x_ins9, w ∈ lw_tbl := by unfold wsP_x_ins9; exact iw_cons (gTb_m (c := 5) (i := 203) rfl) (iw_app (iw_app (gx_posT [(4, 170), (4, 159), (4, 160), (4, 161), (4, 162), (4, 163), (4, 164), (4, 165), (4, 166), (4, 167), (4, 168)] rfl) inX9) iw_nil)
set_option maxRecDepth 20000 in
theorem iw_x_first9 : ∀ w ∈ wsP_x_first9, w ∈ lw_tbl := by unfold wsP_x_first9; exact iw_cons (gTb_m (c := 5) (i := 211) rfl) (iw_app (iw_app (gx_posT [(4, 181), (4, 169)] rfl) inX9) iw_nil)
set_option maxRecDepth 20000 in
theorem iw_c_keepMachine9 : ∀ w ∈ wsP_c_keepMachine9, w ∈ lw_tbl := by unfold wsP_c_keepMachine9; exact iw_cons (gTb_m (c := 5) (i := 215) rfl) (iw_app (iw_app (gx_posT [(4, 182), (4, 181)] rfl) inX9) iw_nil)
set_option maxRecDepth 20000 in
theorem iw_y_begin9 : ∀ w ∈ wsP_y_begin9, w ∈ lw_tbl := by unfold wsP_y_begin9; exact iw_cons (gTb_m (c := 5) (i := 207) rfl) (iw_app (iw_app (gx_posT [(4, 170), (5, 208), (5, 210), (0, 60), (1, 9), (5, 212), (5, 214), (0, 61), (4, 185), (4, 184)] rfl) inX9) (iw_app iw_x_first9 (iw_app iw_c_keepMachine9 iw_nil)))
set_option maxRecDepth 20000 in
theorem iw_c_step9n : ∀ w ∈ wsP_c_step9n, w ∈ lw_tbl := by unfold wsP_c_step9n; exact iw_cons (gTb_m (c := 5) (i := 219) rfl) (iw_app (iw_app (gx_posT [(4, 185)] rfl) inX9) iw_nil)
set_option maxRecDepth 20000 in
theorem iw_c_takeMachine9 : ∀ w ∈ wsP_c_takeMachine9, w ∈ lw_tbl := by unfold wsP_c_takeMachine9; exact iw_cons (gTb_m (c := 5) (i := 223) rfl) (iw_app (iw_app (gx_posT [(4, 181), (4, 182)] rfl) inX9) iw_nil)
set_option maxRecDepth 20000 in
theorem iw_c_rowAt9 : ∀ w ∈ wsP_c_rowAt9, w ∈ lw_tbl := by unfold wsP_c_rowAt9; exact iw_cons (gTb_m (c := 5) (i := 230) rfl) (iw_app iw_nil iw_nil)
set_option maxRecDepth 20000 in
theorem iw_x_can9 : ∀ w ∈ wsP_x_can9, w ∈ lw_tbl := by unfold wsP_x_can9; exact iw_cons (gTb_m (c := 5) (i := 227) rfl) (iw_app (iw_app (gx_posT [(4, 159), (4, 181), (4, 160), (4, 161), (5, 228), (5, 229), (1, 9)] rfl) inX9) (iw_app iw_c_rowAt9 iw_nil))
set_option maxRecDepth 20000 in
theorem iw_x_goes9 : ∀ w ∈ wsP_x_goes9, w ∈ lw_tbl := by unfold wsP_x_goes9; exact iw_cons (gTb_m (c := 5) (i := 238) rfl) (iw_app (iw_app (gx_posT [(5, 228), (5, 229), (1, 9), (4, 181)] rfl) inX9) (iw_app iw_c_rowAt9 iw_nil))
set_option maxRecDepth 20000 in
theorem iw_x_doesG9 : ∀ w ∈ wsP_x_doesG9, w ∈ lw_tbl := by unfold wsP_x_doesG9; exact iw_cons (gTb_m (c := 5) (i := 234) rfl) (iw_app (gx_posT [(5, 235), (5, 237), (0, 65), (1, 9)] rfl) (iw_app iw_x_goes9 iw_nil))
set_option maxRecDepth 20000 in
theorem iw_x_taken9 : ∀ w ∈ wsP_x_taken9, w ∈ lw_tbl := by unfold wsP_x_taken9; exact iw_cons (gTb_m (c := 6) (i := 2) rfl) (iw_app (iw_app (gx_posT [(4, 181)] rfl) inX9) iw_nil)
set_option maxRecDepth 20000 in
theorem iw_x_loaded9 : ∀ w ∈ wsP_x_loaded9, w ∈ lw_tbl := by unfold wsP_x_loaded9; exact iw_cons (gTb_m (c := 6) (i := 6) rfl) (iw_app (iw_app (gx_posT [(5, 228), (5, 229), (1, 9), (4, 181)] rfl) inX9) (iw_app iw_c_rowAt9 iw_nil))
set_option maxRecDepth 20000 in
theorem iw_x_put9 : ∀ w ∈ wsP_x_put9, w ∈ lw_tbl := by unfold wsP_x_put9; exact iw_cons (gTb_m (c := 6) (i := 10) rfl) (iw_app (iw_app (gx_posT [(5, 228), (5, 229), (1, 9), (4, 181)] rfl) inX9) (iw_app iw_c_rowAt9 iw_nil))
set_option maxRecDepth 20000 in
theorem iw_x_locked9 : ∀ w ∈ wsP_x_locked9, w ∈ lw_tbl := by unfold wsP_x_locked9; exact iw_cons (gTb_m (c := 6) (i := 14) rfl) (iw_app (iw_app (gx_posT [(4, 181)] rfl) inX9) iw_nil)
set_option maxRecDepth 20000 in
theorem iw_x_doesK9 : ∀ w ∈ wsP_x_doesK9, w ∈ lw_tbl := by unfold wsP_x_doesK9; exact iw_cons (gTb_m (c := 5) (i := 234) rfl) (iw_app (iw_app (gx_posT [(4, 181), (4, 163), (4, 162), (4, 164), (4, 165), (5, 239), (6, 1), (0, 66), (1, 9), (4, 166), (4, 167), (4, 161), (6, 3), (6, 5), (0, 67), (6, 7), (6, 9), (0, 68), (6, 11), (6, 13), (0, 69), (4, 168)] rfl) inX9) (iw_app iw_x_taken9 (iw_app iw_x_loaded9 (iw_app iw_x_put9 (iw_app iw_x_locked9 iw_nil)))))
set_option maxRecDepth 20000 in
theorem iw_x_step9 : ∀ w ∈ wsP_x_step9, w ∈ lw_tbl := by unfold wsP_x_step9; exact iw_cons (gTb_m (c := 5) (i := 219) rfl) (iw_app (iw_app (gx_posT [(4, 185), (5, 220), (5, 222), (0, 62), (1, 9), (5, 224), (5, 226), (0, 63), (4, 184), (5, 231), (5, 233), (0, 64), (5, 212), (5, 214), (0, 61), (4, 183), (4, 182)] rfl) inX9) (iw_app iw_c_takeMachine9 (iw_app iw_x_can9 (iw_app iw_x_doesG9 (iw_app iw_c_keepMachine9 (iw_app iw_x_doesK9 iw_nil))))))
set_option maxRecDepth 20000 in
theorem iw_c_undo9n : ∀ w ∈ wsP_c_undo9n, w ∈ lw_tbl := by unfold wsP_c_undo9n; exact iw_cons (gTb_m (c := 6) (i := 18) rfl) (iw_app (iw_app (gx_posT [(4, 185)] rfl) inX9) iw_nil)
set_option maxRecDepth 20000 in
theorem iw_x_undo9 : ∀ w ∈ wsP_x_undo9, w ∈ lw_tbl := by unfold wsP_x_undo9; exact iw_cons (gTb_m (c := 6) (i := 18) rfl) (iw_app (iw_app (gx_posT [(4, 185), (4, 184), (4, 182), (4, 183)] rfl) inX9) iw_nil)
set_option maxRecDepth 20000 in
theorem iw_x_isCore9 : ∀ w ∈ wsP_x_isCore9, w ∈ lw_tbl := by unfold wsP_x_isCore9; exact iw_cons (gTb_m (c := 6) (i := 26) rfl) (iw_app (iw_app (gx_posT [(4, 185), (4, 159)] rfl) inX9) iw_nil)
set_option maxRecDepth 20000 in
theorem iw_x_registerQ9 : ∀ w ∈ wsP_x_registerQ9, w ∈ lw_tbl := by unfold wsP_x_registerQ9; exact iw_cons (gTb_m (c := 6) (i := 22) rfl) (iw_app (iw_app (gx_posT [(6, 23), (6, 25), (0, 70), (1, 9), (4, 182)] rfl) inX9) (iw_app iw_x_isCore9 iw_nil))
set_option maxRecDepth 20000 in
theorem iw_x_memory9 : ∀ w ∈ wsP_x_memory9, w ∈ lw_tbl := by unfold wsP_x_memory9; exact iw_cons (gTb_m (c := 6) (i := 30) rfl) (iw_app (iw_app (gx_posT [(4, 185), (4, 182)] rfl) inX9) iw_nil)
set_option maxRecDepth 20000 in
theorem iw_x_next9 : ∀ w ∈ wsP_x_next9, w ∈ lw_tbl := by unfold wsP_x_next9; exact iw_cons (gTb_m (c := 6) (i := 34) rfl) (iw_app (iw_app (gx_posT [(6, 23), (6, 25), (0, 70), (1, 9), (4, 182)] rfl) inX9) (iw_app iw_x_isCore9 iw_nil))
set_option maxRecDepth 20000 in
theorem iw_x_store9 : ∀ w ∈ wsP_x_store9, w ∈ lw_tbl := by unfold wsP_x_store9; exact iw_cons (gTb_m (c := 6) (i := 38) rfl) (iw_app (iw_app (gx_posT [(6, 23), (6, 25), (0, 70), (1, 9), (4, 182), (5, 228), (5, 229), (1, 9)] rfl) inX9) (iw_app iw_x_isCore9 (iw_app iw_c_rowAt9 iw_nil)))
set_option maxRecDepth 20000 in
theorem iw_x_sum9 : ∀ w ∈ wsP_x_sum9, w ∈ lw_tbl := by unfold wsP_x_sum9; exact iw_cons (gTb_m (c := 6) (i := 57) rfl) (iw_app (gx_posT [(6, 58), (6, 59)] rfl) iw_nil)
set_option maxRecDepth 20000 in
theorem iw_x_isNow9 : ∀ w ∈ wsP_x_isNow9, w ∈ lw_tbl := by unfold wsP_x_isNow9; exact iw_cons (gTb_m (c := 6) (i := 63) rfl) (iw_app (iw_app (gx_posT [(4, 171), (4, 181)] rfl) inX9) iw_nil)
set_option maxRecDepth 20000 in
theorem iw_x_comes9 : ∀ w ∈ wsP_x_comes9, w ∈ lw_tbl := by unfold wsP_x_comes9; exact iw_cons (gTb_m (c := 6) (i := 54) rfl) (iw_app (iw_app (gx_posT [(4, 181), (6, 55), (6, 56), (1, 9), (4, 175), (4, 176), (4, 172), (4, 173), (4, 174), (4, 171), (6, 60), (6, 62), (0, 74), (1, 9)] rfl) inX9) (iw_app iw_x_sum9 (iw_app iw_x_isNow9 iw_nil)))
set_option maxRecDepth 20000 in
theorem iw_x_told9 : ∀ w ∈ wsP_x_told9, w ∈ lw_tbl := by unfold wsP_x_told9; exact iw_cons (gTb_m (c := 6) (i := 87) rfl) (iw_app (iw_app (gx_posT [(4, 171)] rfl) inX9) iw_nil)
set_option maxRecDepth 20000 in
theorem iw_x_compare9 : ∀ w ∈ wsP_x_compare9, w ∈ lw_tbl := by unfold wsP_x_compare9; exact iw_cons (gTb_m (c := 6) (i := 83) rfl) (iw_app (gx_posT [(6, 84), (6, 86), (0, 80), (1, 9)] rfl) (iw_app iw_x_told9 iw_nil))
set_option maxRecDepth 20000 in
theorem iw_x_sink9 : ∀ w ∈ wsP_x_sink9, w ∈ lw_tbl := by unfold wsP_x_sink9; exact iw_cons (gTb_m (c := 6) (i := 79) rfl) (iw_app (iw_app (gx_posT [(4, 179), (6, 80), (6, 82), (0, 79), (1, 9)] rfl) inX9) (iw_app iw_x_compare9 iw_nil))
set_option maxRecDepth 20000 in
theorem iw_x_sortEnds9 : ∀ w ∈ wsP_x_sortEnds9, w ∈ lw_tbl := by unfold wsP_x_sortEnds9; exact iw_cons (gTb_m (c := 6) (i := 75) rfl) (iw_app (iw_app (gx_posT [(4, 180), (4, 179), (6, 76), (6, 78), (0, 78), (1, 9)] rfl) inX9) (iw_app iw_x_sink9 iw_nil))
set_option maxRecDepth 20000 in
theorem iw_x_isEnd9 : ∀ w ∈ wsP_x_isEnd9, w ∈ lw_tbl := by unfold wsP_x_isEnd9; exact iw_cons (gTb_m (c := 6) (i := 71) rfl) (iw_app (iw_app (gx_posT [(4, 159), (4, 160), (5, 228), (5, 229), (1, 9)] rfl) inX9) (iw_app iw_c_rowAt9 iw_nil))
set_option maxRecDepth 20000 in
theorem iw_c_at9 : ∀ w ∈ wsP_c_at9, w ∈ lw_tbl := by unfold wsP_c_at9; exact iw_cons (gTb_m (c := 6) (i := 67) rfl) (iw_app (iw_app (gx_posT [(4, 181), (4, 171)] rfl) inX9) iw_nil)
set_option maxRecDepth 20000 in
theorem iw_x_explore9 : ∀ w ∈ wsP_x_explore9, w ∈ lw_tbl := by unfold wsP_x_explore9; exact iw_cons (gTb_m (c := 6) (i := 50) rfl) (iw_app (iw_app (gx_posT [(4, 178), (4, 177), (4, 176), (4, 180), (5, 208), (5, 210), (0, 60), (1, 9), (6, 51), (6, 53), (0, 73), (6, 72), (6, 74), (0, 77), (4, 171), (6, 68), (6, 70), (0, 76), (4, 179), (6, 64), (6, 66), (0, 75), (5, 224), (5, 226), (0, 63), (5, 231), (5, 233), (0, 64), (4, 175)] rfl) inX9) (iw_app iw_x_first9 (iw_app iw_x_comes9 (iw_app iw_x_sortEnds9 (iw_app iw_x_isEnd9 (iw_app iw_c_at9 (iw_app iw_x_can9 (iw_app iw_x_doesG9 (iw_app iw_x_doesK9 iw_nil)))))))))
set_option maxRecDepth 20000 in
theorem iw_x_explored9 : ∀ w ∈ wsP_x_explored9, w ∈ lw_tbl := by unfold wsP_x_explored9; exact iw_cons (gTb_m (c := 6) (i := 46) rfl) (iw_app (iw_app (gx_posT [(4, 178), (4, 177), (6, 47), (6, 49), (0, 72), (1, 9)] rfl) inX9) (iw_app iw_x_explore9 iw_nil))
set_option maxRecDepth 20000 in
theorem iw_x_outcomes9 : ∀ w ∈ wsP_x_outcomes9, w ∈ lw_tbl := by unfold wsP_x_outcomes9; exact iw_cons (gTb_m (c := 6) (i := 42) rfl) (iw_app (iw_app (gx_posT [(4, 170), (6, 43), (6, 45), (0, 71), (1, 9), (4, 180)] rfl) inX9) (iw_app iw_x_explored9 iw_nil))
set_option maxRecDepth 20000 in
theorem iw_x_isOutcome9 : ∀ w ∈ wsP_x_isOutcome9, w ∈ lw_tbl := by unfold wsP_x_isOutcome9; exact iw_cons (gTb_m (c := 6) (i := 95) rfl) (iw_app (iw_app (gx_posT [(4, 170), (6, 43), (6, 45), (0, 71), (1, 9), (4, 180)] rfl) inX9) (iw_app iw_x_explored9 iw_nil))
set_option maxRecDepth 20000 in
theorem iw_x_outcome9 : ∀ w ∈ wsP_x_outcome9, w ∈ lw_tbl := by unfold wsP_x_outcome9; exact iw_cons (gTb_m (c := 6) (i := 91) rfl) (iw_app (iw_app (gx_posT [(6, 92), (6, 94), (0, 81), (1, 9), (4, 179), (6, 84), (6, 86), (0, 80)] rfl) inX9) (iw_app iw_x_isOutcome9 (iw_app iw_x_told9 iw_nil)))
set_option maxRecDepth 20000 in
theorem iw_x_stepOf9 : ∀ w ∈ wsP_x_stepOf9, w ∈ lw_tbl := by unfold wsP_x_stepOf9; exact iw_cons (gTb_m (c := 6) (i := 103) rfl) (iw_app (iw_app (gx_posT [(4, 172), (4, 173)] rfl) inX9) iw_nil)
set_option maxRecDepth 20000 in
theorem iw_x_schedule9 : ∀ w ∈ wsP_x_schedule9, w ∈ lw_tbl := by unfold wsP_x_schedule9; exact iw_cons (gTb_m (c := 6) (i := 99) rfl) (iw_app (iw_app (gx_posT [(6, 92), (6, 94), (0, 81), (1, 9), (4, 179), (6, 100), (6, 102), (0, 82)] rfl) inX9) (iw_app iw_x_isOutcome9 (iw_app iw_x_stepOf9 iw_nil)))
set_option maxRecDepth 20000 in
theorem iw_x_isWithout9 : ∀ w ∈ wsP_x_isWithout9, w ∈ lw_tbl := by unfold wsP_x_isWithout9; exact iw_cons (gTb_m (c := 6) (i := 111) rfl) (iw_app (iw_app (gx_posT [(4, 180), (4, 179), (6, 80), (6, 82), (0, 79), (1, 9)] rfl) inX9) (iw_app iw_x_compare9 iw_nil))
set_option maxRecDepth 20000 in
theorem iw_x_more9 : ∀ w ∈ wsP_x_more9, w ∈ lw_tbl := by unfold wsP_x_more9; exact iw_cons (gTb_m (c := 6) (i := 107) rfl) (iw_app (iw_app (gx_posT [(4, 170), (6, 43), (6, 45), (0, 71), (1, 9), (4, 180), (6, 108), (6, 110), (0, 83)] rfl) inX9) (iw_app iw_x_explored9 (iw_app iw_x_isWithout9 iw_nil)))
set_option maxRecDepth 20000 in
theorem iw_c_nextOf9 : ∀ w ∈ wsP_c_nextOf9, w ∈ lw_tbl := by unfold wsP_c_nextOf9; exact iw_cons (gTb_m (c := 6) (i := 123) rfl) (iw_app (iw_app (gx_posT [(4, 171), (4, 159), (4, 160)] rfl) inX9) iw_nil)
set_option maxRecDepth 20000 in
theorem iw_c_isRace9 : ∀ w ∈ wsP_c_isRace9, w ∈ lw_tbl := by unfold wsP_c_isRace9; exact iw_cons (gTb_m (c := 6) (i := 119) rfl) (iw_app (iw_app (gx_posT [(6, 120), (6, 122), (0, 85), (1, 9), (4, 161), (4, 162), (4, 171), (4, 201), (4, 202), (4, 203)] rfl) inX9) (iw_app iw_c_nextOf9 iw_nil))
set_option maxRecDepth 20000 in
theorem iw_c_stepOf9 : ∀ w ∈ wsP_c_stepOf9, w ∈ lw_tbl := by unfold wsP_c_stepOf9; exact iw_cons (gTb_m (c := 6) (i := 103) rfl) (iw_app (iw_app (gx_posT [(4, 172), (4, 173)] rfl) inX9) iw_nil)
set_option maxRecDepth 20000 in
theorem iw_x_race9 : ∀ w ∈ wsP_x_race9, w ∈ lw_tbl := by unfold wsP_x_race9; exact iw_cons (gTb_m (c := 6) (i := 115) rfl) (iw_app (iw_app (gx_posT [(4, 170), (4, 200), (6, 47), (6, 49), (0, 72), (1, 9), (4, 177), (4, 176), (6, 116), (6, 118), (0, 84), (4, 205), (6, 100), (6, 102), (0, 82), (4, 204)] rfl) inX9) (iw_app iw_x_explore9 (iw_app iw_c_isRace9 (iw_app iw_c_stepOf9 iw_nil))))
set_option maxRecDepth 20000 in
theorem iw_x_racer9 : ∀ w ∈ wsP_x_racer9, w ∈ lw_tbl := by unfold wsP_x_racer9; exact iw_cons (gTb_m (c := 6) (i := 127) rfl) (iw_app (iw_app (gx_posT [(4, 170), (6, 128), (6, 113), (6, 114), (1, 9), (4, 205), (4, 204), (4, 203), (4, 202), (4, 201)] rfl) inX9) (iw_app iw_x_race9 iw_nil))
