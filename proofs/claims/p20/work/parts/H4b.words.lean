set_option maxRecDepth 20000 in
theorem iw_e_letGo : ∀ w ∈ wsP_e_letGo, w ∈ lw_tbl := by unfold wsP_e_letGo; exact iw_cons (gTb_m (c := 3) (i := 35) rfl) (iw_app (iw_app (gx_posT [(1, 119), (3, 36), (3, 37), (3, 38), (1, 5), (2, 238), (3, 0), (2, 239), (1, 15), (3, 40)] rfl) inX7) (iw_app iw_e_rowCell iw_nil))
set_option maxRecDepth 20000 in
theorem iw_e_moveG : ∀ w ∈ wsP_e_moveG, w ∈ lw_tbl := by unfold wsP_e_moveG; exact iw_cons (gTb_m (c := 3) (i := 31) rfl) (iw_app (gx_posT [(3, 32), (3, 34), (0, 17), (1, 5)] rfl) (iw_app iw_e_letGo iw_nil))
set_option maxRecDepth 20000 in
theorem iw_c_partsAt : ∀ w ∈ wsP_c_partsAt, w ∈ lw_tbl := by unfold wsP_c_partsAt; exact iw_cons (gTb_m (c := 2) (i := 162) rfl) iw_nil
set_option maxRecDepth 20000 in
theorem iw_c_rowInt : ∀ w ∈ wsP_c_rowInt, w ∈ lw_tbl := by unfold wsP_c_rowInt; exact iw_cons (gTb_m (c := 3) (i := 49) rfl) (iw_app (gx_posT [(1, 119)] rfl) inX7)
set_option maxRecDepth 20000 in
theorem iw_e_seen : ∀ w ∈ wsP_e_seen, w ∈ lw_tbl := by unfold wsP_e_seen; exact iw_cons (gTb_m (c := 3) (i := 45) rfl) (iw_app (iw_app (gx_posT [(3, 13), (3, 14), (3, 15), (1, 5), (1, 119), (3, 36), (3, 37), (3, 38), (3, 46), (3, 47), (3, 48)] rfl) inX7) (iw_app iw_c_rowSize (iw_app iw_e_rowCell (iw_app iw_c_rowInt iw_nil))))
set_option maxRecDepth 20000 in
theorem iw_e_valueOf : ∀ w ∈ wsP_e_valueOf, w ∈ lw_tbl := by unfold wsP_e_valueOf; exact iw_cons (gTb_m (c := 3) (i := 53) rfl) (iw_app (iw_app (gx_posT [(1, 119)] rfl) inX7) iw_nil)
set_option maxRecDepth 20000 in
theorem iw_e_put : ∀ w ∈ wsP_e_put, w ∈ lw_tbl := by unfold wsP_e_put; exact iw_cons (gTb_m (c := 3) (i := 57) rfl) (iw_app (iw_app (gx_posT [(3, 13), (3, 14), (3, 15), (1, 5), (1, 119)] rfl) inX7) (iw_app iw_c_rowSize iw_nil))
set_option maxRecDepth 20000 in
theorem iw_e_forgetStored : ∀ w ∈ wsP_e_forgetStored, w ∈ lw_tbl := by unfold wsP_e_forgetStored; exact iw_cons (gTb_m (c := 3) (i := 61) rfl) (iw_app (iw_app (gx_posT [(1, 119), (3, 62)] rfl) inX7) iw_nil)
set_option maxRecDepth 20000 in
theorem iw_e_lock : ∀ w ∈ wsP_e_lock, w ∈ lw_tbl := by unfold wsP_e_lock; exact iw_cons (gTb_m (c := 3) (i := 66) rfl) (iw_app (iw_app (gx_posT [(3, 50), (3, 52), (0, 19), (1, 5), (1, 119)] rfl) inX7) (iw_app iw_e_valueOf iw_nil))
set_option maxRecDepth 20000 in
theorem iw_e_moveK : ∀ w ∈ wsP_e_moveK, w ∈ lw_tbl := by unfold wsP_e_moveK; exact iw_cons (gTb_m (c := 3) (i := 31) rfl) (iw_app (iw_app (iw_app (gx_posT [(1, 53), (3, 17), (3, 18), (3, 19), (1, 5), (3, 41), (2, 161), (1, 3), (1, 119), (3, 42), (3, 44), (0, 18), (3, 50), (3, 52), (0, 19), (3, 54), (3, 56), (0, 20), (3, 58), (3, 60), (0, 21), (3, 63), (3, 65), (0, 22)] rfl) inX4) inX7) (iw_app iw_c_nextOf (iw_app iw_c_partsAt (iw_app iw_e_seen (iw_app iw_e_valueOf (iw_app iw_e_put (iw_app iw_e_forgetStored (iw_app iw_e_lock iw_nil))))))))
set_option maxRecDepth 20000 in
theorem iw_x_go : ∀ w ∈ wsP_x_go, w ∈ lw_tbl := by unfold wsP_x_go; exact iw_cons (gTb_m (c := 3) (i := 8) rfl) (iw_app (iw_app (gx_posT [(1, 129), (1, 125), (3, 9), (3, 10), (3, 11), (1, 5), (1, 131), (3, 28), (3, 29), (3, 30), (1, 132)] rfl) inX3) (iw_app iw_x_can8 (iw_app iw_e_moveG (iw_app iw_e_moveK iw_nil))))
set_option maxRecDepth 20000 in
theorem iw_x_step8 : ∀ w ∈ wsP_x_step8, w ∈ lw_tbl := by unfold wsP_x_step8; exact iw_cons (gTb_m (c := 3) (i := 4) rfl) (iw_app (iw_app (iw_app (gx_posT [(1, 233), (1, 128), (1, 232), (3, 5), (3, 6), (3, 7), (1, 4)] rfl) inX8) inX3) (iw_app iw_x_go iw_nil))
set_option maxRecDepth 20000 in
theorem iw_x_takeBack : ∀ w ∈ wsP_x_takeBack, w ∈ lw_tbl := by unfold wsP_x_takeBack; exact iw_cons (gTb_m (c := 3) (i := 74) rfl) (iw_app (iw_app (gx_posT [(1, 129), (1, 125), (2, 233), (2, 234), (2, 235), (1, 5), (1, 132), (1, 131), (3, 28), (3, 29), (3, 30)] rfl) inX3) (iw_app iw_e_start (iw_app iw_e_moveG (iw_app iw_e_moveK iw_nil))))
set_option maxRecDepth 20000 in
theorem iw_x_undo8 : ∀ w ∈ wsP_x_undo8, w ∈ lw_tbl := by unfold wsP_x_undo8; exact iw_cons (gTb_m (c := 3) (i := 70) rfl) (iw_app (iw_app (iw_app (gx_posT [(1, 233), (1, 128), (1, 232), (3, 71), (3, 72), (3, 73), (1, 4)] rfl) inX8) inX3) (iw_app iw_x_takeBack iw_nil))
set_option maxRecDepth 20000 in
theorem iw_x_register8 : ∀ w ∈ wsP_x_register8, w ∈ lw_tbl := by unfold wsP_x_register8; exact iw_cons (gTb_m (c := 3) (i := 78) rfl) (iw_app (iw_app (iw_app (iw_app (gx_posT [(1, 233), (1, 128), (2, 217), (2, 219), (0, 16), (1, 1), (1, 126), (1, 121)] rfl) inX8) inX3) inX7) (iw_app iw_x_hasCore iw_nil))
set_option maxRecDepth 20000 in
theorem iw_x_memory8 : ∀ w ∈ wsP_x_memory8, w ∈ lw_tbl := by unfold wsP_x_memory8; exact iw_cons (gTb_m (c := 3) (i := 82) rfl) (iw_app (iw_app (iw_app (iw_app (gx_posT [(1, 233), (1, 128), (1, 126), (1, 121)] rfl) inX8) inX3) inX7) iw_nil)
set_option maxRecDepth 20000 in
theorem iw_x_next8 : ∀ w ∈ wsP_x_next8, w ∈ lw_tbl := by unfold wsP_x_next8; exact iw_cons (gTb_m (c := 3) (i := 86) rfl) (iw_app (iw_app (iw_app (gx_posT [(1, 233), (1, 128), (2, 217), (2, 219), (0, 16), (1, 1), (1, 126), (3, 87), (3, 18), (3, 19), (1, 5)] rfl) inX8) inX3) (iw_app iw_x_hasCore (iw_app iw_c_nextOf iw_nil)))
set_option maxRecDepth 20000 in
theorem iw_x_store8z : ∀ w ∈ wsP_x_store8z, w ∈ lw_tbl := by unfold wsP_x_store8z; exact iw_cons (gTb_m (c := 3) (i := 91) rfl) (iw_app (iw_app (iw_app (gx_posT [(1, 233), (1, 128)] rfl) inX8) inX3) iw_nil)
set_option maxRecDepth 20000 in
theorem iw_x_store8 : ∀ w ∈ wsP_x_store8, w ∈ lw_tbl := by unfold wsP_x_store8; exact iw_cons (gTb_m (c := 3) (i := 91) rfl) (iw_app (iw_app (iw_app (gx_posT [(1, 233), (1, 128), (2, 217), (2, 219), (0, 16), (1, 1), (1, 126), (3, 92), (3, 14), (3, 15), (1, 5), (3, 94), (3, 47), (3, 48), (3, 93), (3, 37), (3, 38)] rfl) inX8) inX3) (iw_app iw_x_hasCore (iw_app iw_c_rowSize (iw_app iw_c_rowInt (iw_app iw_e_rowCell iw_nil)))))
set_option maxRecDepth 20000 in
theorem iw_c_X1_init : ∀ w ∈ wsP_c_X1_init, w ∈ lw_tbl := by unfold wsP_c_X1_init; exact iw_cons (gTb_m (c := 3) (i := 111) rfl) (iw_app (iw_app (gx_posT [(3, 112), (1, 25), (1, 26), (1, 65), (3, 120), (3, 122), (3, 113), (1, 114), (1, 5), (1, 118), (1, 119), (1, 117), (1, 116), (3, 125), (3, 127), (3, 128), (3, 129), (3, 130), (3, 131)] rfl) inX1) inX7)
set_option maxRecDepth 20000 in
theorem iw_c_atHandN : ∀ w ∈ wsP_c_atHandN, w ∈ lw_tbl := by unfold wsP_c_atHandN; exact iw_cons (gTb_m (c := 3) (i := 106) rfl) (iw_app (iw_app (iw_app (gx_posT [(1, 234), (3, 107), (3, 108), (1, 16), (3, 110)] rfl) inX8) inX1) (iw_app iw_c_X1_init iw_nil))
set_option maxRecDepth 20000 in
theorem iw_c_widthOf : ∀ w ∈ wsP_c_widthOf, w ∈ lw_tbl := by unfold wsP_c_widthOf; exact iw_cons (gTb_m (c := 3) (i := 160) rfl) (iw_app (gx_posT [(1, 40)] rfl) inX4)
set_option maxRecDepth 20000 in
theorem iw_x_hashOf : ∀ w ∈ wsP_x_hashOf, w ∈ lw_tbl := by unfold wsP_x_hashOf; exact iw_cons (gTb_m (c := 3) (i := 169) rfl) (iw_app (iw_app (gx_posT [(3, 128), (3, 170)] rfl) inX1) iw_nil)
set_option maxRecDepth 20000 in
theorem iw_x_xSame : ∀ w ∈ wsP_x_xSame, w ∈ lw_tbl := by unfold wsP_x_xSame; exact iw_cons (gTb_m (c := 3) (i := 195) rfl) (iw_app (iw_app (gx_posT [(3, 128), (3, 129)] rfl) inX1) iw_nil)
set_option maxRecDepth 20000 in
theorem iw_c_copyOf : ∀ w ∈ wsP_c_copyOf, w ∈ lw_tbl := by unfold wsP_c_copyOf; exact iw_cons (gTb_m (c := 3) (i := 181) rfl) (iw_app (gx_posT [(1, 65), (3, 189), (3, 177), (1, 17), (3, 178), (3, 190), (3, 0), (2, 239), (1, 15)] rfl) iw_nil)
set_option maxRecDepth 20000 in
theorem iw_x_add : ∀ w ∈ wsP_x_add, w ∈ lw_tbl := by unfold wsP_x_add; exact iw_cons (gTb_m (c := 3) (i := 174) rfl) (iw_app (iw_app (gx_posT [(3, 115), (3, 128), (3, 129), (3, 191), (3, 0), (2, 239), (1, 15), (3, 131), (3, 130), (3, 175), (3, 176), (3, 177), (1, 17), (3, 178), (3, 179), (3, 180), (1, 14)] rfl) inX1) (iw_app iw_c_copyOf iw_nil))
set_option maxRecDepth 20000 in
theorem iw_x_keep : ∀ w ∈ wsP_x_keep, w ∈ lw_tbl := by unfold wsP_x_keep; exact iw_cons (gTb_m (c := 3) (i := 165) rfl) (iw_app (iw_app (gx_posT [(3, 166), (3, 168), (0, 26), (1, 16), (3, 130), (3, 192), (3, 194), (0, 28), (3, 171), (3, 173), (0, 27)] rfl) inX1) (iw_app iw_x_hashOf (iw_app iw_x_xSame (iw_app iw_x_add iw_nil))))
set_option maxRecDepth 20000 in
theorem iw_c_fetch : ∀ w ∈ wsP_c_fetch, w ∈ lw_tbl := by unfold wsP_c_fetch; exact iw_cons (gTb_m (c := 3) (i := 199) rfl) (iw_app (iw_app (iw_app (gx_posT [(3, 129), (3, 128), (3, 125), (1, 120), (3, 191), (3, 0), (2, 239), (1, 15)] rfl) inX1) inX7) iw_nil)
set_option maxRecDepth 20000 in
theorem iw_x_hasEnded : ∀ w ∈ wsP_x_hasEnded, w ∈ lw_tbl := by unfold wsP_x_hasEnded; exact iw_cons (gTb_m (c := 3) (i := 203) rfl) (iw_app (iw_app (iw_app (gx_posT [(1, 40), (1, 119), (1, 47)] rfl) inX4) inX7) iw_nil)
set_option maxRecDepth 20000 in
theorem iw_x_isBefore : ∀ w ∈ wsP_x_isBefore, w ∈ lw_tbl := by unfold wsP_x_isBefore; exact iw_cons (gTb_m (c := 3) (i := 211) rfl) (iw_app (iw_app (gx_posT [(3, 129), (3, 128)] rfl) inX1) iw_nil)
set_option maxRecDepth 20000 in
theorem iw_x_addEnd : ∀ w ∈ wsP_x_addEnd, w ∈ lw_tbl := by unfold wsP_x_addEnd; exact iw_cons (gTb_m (c := 3) (i := 207) rfl) (iw_app (iw_app (gx_posT [(3, 118), (3, 120), (3, 191), (3, 0), (2, 239), (1, 15), (3, 208), (3, 210), (0, 30), (1, 16)] rfl) inX1) (iw_app iw_x_isBefore iw_nil))
set_option maxRecDepth 20000 in
theorem iw_x_explore : ∀ w ∈ wsP_x_explore, w ∈ lw_tbl := by unfold wsP_x_explore; exact iw_cons (gTb_m (c := 3) (i := 156) rfl) (iw_app (iw_app (iw_app (gx_posT [(3, 130), (3, 157), (2, 118), (1, 14), (3, 115), (3, 118), (3, 158), (3, 159), (1, 5), (3, 128), (3, 125), (3, 161), (2, 234), (2, 235), (1, 5), (1, 120), (3, 162), (3, 164), (0, 25), (1, 16), (3, 196), (3, 197), (3, 198), (3, 200), (3, 201), (3, 202), (3, 212), (3, 10), (3, 11), (3, 127), (3, 191), (3, 0), (2, 239), (1, 15), (3, 213), (3, 29), (3, 30), (3, 204), (3, 206), (0, 29)] rfl) inX1) inX7) (iw_app iw_c_fill (iw_app iw_c_widthOf (iw_app iw_e_start (iw_app iw_x_keep (iw_app iw_c_fetch (iw_app iw_x_hasEnded (iw_app iw_x_can8 (iw_app iw_e_moveG (iw_app iw_e_moveK (iw_app iw_x_addEnd iw_nil)))))))))))
set_option maxRecDepth 20000 in
theorem iw_c_rangeCheck : ∀ w ∈ wsP_c_rangeCheck, w ∈ lw_tbl := by unfold wsP_c_rangeCheck; exact iw_cons (gTb_m (c := 3) (i := 232) rfl) (iw_app iw_nil iw_nil)
set_option maxRecDepth 20000 in
theorem iw_x_fill4 : ∀ w ∈ wsP_x_fill4, w ∈ lw_tbl := by unfold wsP_x_fill4; exact iw_cons (gTb_m (c := 3) (i := 229) rfl) (iw_app (gx_posT [(3, 230), (3, 231), (1, 14)] rfl) (iw_app iw_c_rangeCheck iw_nil))
set_option maxRecDepth 20000 in
theorem iw_x_pathTo : ∀ w ∈ wsP_x_pathTo, w ∈ lw_tbl := by unfold wsP_x_pathTo; exact iw_cons (gTb_m (c := 3) (i := 236) rfl) (iw_app (iw_app (gx_posT [(3, 122), (3, 131)] rfl) inX1) iw_nil)
set_option maxRecDepth 20000 in
theorem iw_x_xInt : ∀ w ∈ wsP_x_xInt, w ∈ lw_tbl := by unfold wsP_x_xInt; exact iw_cons (gTb_m (c := 3) (i := 226) rfl) (iw_app (iw_app (gx_posT [(3, 129), (3, 128)] rfl) inX1) iw_nil)
set_option maxRecDepth 20000 in
theorem iw_x_record : ∀ w ∈ wsP_x_record, w ∈ lw_tbl := by unfold wsP_x_record; exact iw_cons (gTb_m (c := 3) (i := 222) rfl) (iw_app (iw_app (iw_app (gx_posT [(3, 121), (1, 158), (3, 227), (3, 228), (1, 14), (3, 233), (3, 234), (3, 235), (1, 16), (3, 124), (3, 223), (3, 224), (3, 225)] rfl) inX1) inX2) (iw_app iw_x_fill4 (iw_app iw_x_pathTo (iw_app iw_x_xInt iw_nil))))
set_option maxRecDepth 20000 in
theorem iw_x_fillF : ∀ w ∈ wsP_x_fillF, w ∈ lw_tbl := by unfold wsP_x_fillF; exact iw_cons (gTb_m (c := 3) (i := 217) rfl) (iw_app (iw_app (iw_app (gx_posT [(1, 150), (1, 152), (3, 116), (1, 155), (1, 156), (1, 158), (3, 219), (3, 221), (0, 31), (1, 6), (3, 218), (3, 177), (1, 17), (3, 178), (1, 65), (3, 119)] rfl) inX2) inX1) (iw_app iw_x_record iw_nil))
set_option maxRecDepth 20000 in
theorem iw_x_found0N : ∀ w ∈ wsP_x_found0N, w ∈ lw_tbl := by unfold wsP_x_found0N; exact iw_cons (gTb_m (c := 3) (i := 102) rfl) (iw_app (iw_app (iw_app (gx_posT [(1, 236), (1, 151), (3, 103), (3, 105), (0, 24), (1, 1), (1, 232), (3, 153), (3, 154), (3, 155), (1, 16), (3, 214), (3, 215), (3, 216), (1, 6)] rfl) inX8) inX2) (iw_app iw_c_atHandN (iw_app iw_x_explore (iw_app iw_x_fillF iw_nil))))
set_option maxRecDepth 20000 in
theorem iw_x_found1N : ∀ w ∈ wsP_x_found1N, w ∈ lw_tbl := by unfold wsP_x_found1N; exact iw_cons (gTb_m (c := 3) (i := 102) rfl) (iw_app (iw_app (iw_app (gx_posT [(1, 235), (1, 151), (3, 103), (3, 105), (0, 24), (1, 1), (1, 232), (3, 153), (3, 154), (3, 155), (1, 16), (3, 214), (3, 215), (3, 216), (1, 6)] rfl) inX8) inX2) (iw_app iw_c_atHandN (iw_app iw_x_explore (iw_app iw_x_fillF iw_nil))))
set_option maxRecDepth 20000 in
theorem iw_x_outcomesN : ∀ w ∈ wsP_x_outcomesN, w ∈ lw_tbl := by unfold wsP_x_outcomesN; exact iw_cons (gTb_m (c := 3) (i := 98) rfl) (iw_app (iw_app (iw_app (gx_posT [(1, 231), (2, 226), (2, 227), (1, 1), (3, 99), (3, 101), (0, 23), (1, 1), (1, 154), (1, 157)] rfl) inX8) inX2) (iw_app iw_x_isMode (iw_app iw_x_found0N (iw_app iw_x_found1N iw_nil))))
set_option maxRecDepth 20000 in
theorem iw_c_atHandE : ∀ w ∈ wsP_c_atHandE, w ∈ lw_tbl := by unfold wsP_c_atHandE; exact iw_cons (gTb_m (c := 3) (i := 106) rfl) (iw_app (iw_app (gx_posT [(1, 234)] rfl) inX8) iw_nil)
set_option maxRecDepth 20000 in
theorem iw_x_found0E : ∀ w ∈ wsP_x_found0E, w ∈ lw_tbl := by unfold wsP_x_found0E; exact iw_cons (gTb_m (c := 3) (i := 102) rfl) (iw_app (iw_app (iw_app (gx_posT [(1, 236), (1, 151), (3, 103), (3, 105), (0, 24), (1, 1), (1, 232), (3, 153), (3, 154), (3, 155), (1, 16), (3, 214), (3, 215), (3, 216), (1, 6)] rfl) inX8) inX2) (iw_app iw_c_atHandE (iw_app iw_x_explore (iw_app iw_x_fillF iw_nil))))
set_option maxRecDepth 20000 in
theorem iw_x_found1E : ∀ w ∈ wsP_x_found1E, w ∈ lw_tbl := by unfold wsP_x_found1E; exact iw_cons (gTb_m (c := 3) (i := 102) rfl) (iw_app (iw_app (iw_app (gx_posT [(1, 235), (1, 151), (3, 103), (3, 105), (0, 24), (1, 1), (1, 232), (3, 153), (3, 154), (3, 155), (1, 16), (3, 214), (3, 215), (3, 216), (1, 6)] rfl) inX8) inX2) (iw_app iw_c_atHandE (iw_app iw_x_explore (iw_app iw_x_fillF iw_nil))))
set_option maxRecDepth 20000 in
theorem iw_x_outcomesE : ∀ w ∈ wsP_x_outcomesE, w ∈ lw_tbl := by unfold wsP_x_outcomesE; exact iw_cons (gTb_m (c := 3) (i := 98) rfl) (iw_app (iw_app (iw_app (gx_posT [(1, 231), (2, 226), (2, 227), (1, 1), (3, 99), (3, 101), (0, 23), (1, 1), (1, 154), (1, 157)] rfl) inX8) inX2) (iw_app iw_x_isMode (iw_app iw_x_found0E (iw_app iw_x_found1E iw_nil))))
set_option maxRecDepth 20000 in
theorem iw_x_has : ∀ w ∈ wsP_x_has, w ∈ lw_tbl := by unfold wsP_x_has; exact iw_cons (gTb_m (c := 4) (i := 4) rfl) (iw_app (iw_app (gx_posT [(1, 156)] rfl) inX2) iw_nil)
set_option maxRecDepth 20000 in
theorem iw_c_findInt : ∀ w ∈ wsP_c_findInt, w ∈ lw_tbl := by unfold wsP_c_findInt; exact iw_cons (gTb_m (c := 4) (i := 8) rfl) (iw_app (gx_posT [(1, 158)] rfl) inX2)
set_option maxRecDepth 20000 in
theorem iw_x_outcomeN : ∀ w ∈ wsP_x_outcomeN, w ∈ lw_tbl := by unfold wsP_x_outcomeN; exact iw_cons (gTb_m (c := 4) (i := 0) rfl) (iw_app (iw_app (gx_posT [(1, 231), (2, 226), (2, 227), (1, 1), (3, 99), (3, 101), (0, 23), (1, 1), (4, 1), (4, 2), (4, 3), (1, 6), (4, 5), (4, 6), (4, 7)] rfl) inX8) (iw_app iw_x_isMode (iw_app iw_x_found0N (iw_app iw_x_has (iw_app iw_c_findInt (iw_app iw_x_found1N iw_nil))))))
set_option maxRecDepth 20000 in
theorem iw_x_outcomeE : ∀ w ∈ wsP_x_outcomeE, w ∈ lw_tbl := by unfold wsP_x_outcomeE; exact iw_cons (gTb_m (c := 4) (i := 0) rfl) (iw_app (iw_app (gx_posT [(1, 231), (2, 226), (2, 227), (1, 1), (3, 99), (3, 101), (0, 23), (1, 1), (4, 1), (4, 2), (4, 3), (1, 6), (4, 5), (4, 6), (4, 7)] rfl) inX8) (iw_app iw_x_isMode (iw_app iw_x_found0E (iw_app iw_x_has (iw_app iw_c_findInt (iw_app iw_x_found1E iw_nil))))))
set_option maxRecDepth 20000 in
theorem iw_x_stepOfF : ∀ w ∈ wsP_x_stepOfF, w ∈ lw_tbl := by unfold wsP_x_stepOfF; exact iw_cons (gTb_m (c := 4) (i := 16) rfl) (iw_app (iw_app (gx_posT [(1, 158)] rfl) inX2) iw_nil)
set_option maxRecDepth 20000 in
theorem iw_x_scheduleN : ∀ w ∈ wsP_x_scheduleN, w ∈ lw_tbl := by unfold wsP_x_scheduleN; exact iw_cons (gTb_m (c := 4) (i := 12) rfl) (iw_app (iw_app (gx_posT [(1, 231), (2, 226), (2, 227), (1, 1), (3, 99), (3, 101), (0, 23), (1, 1), (4, 1), (4, 2), (4, 3), (1, 6), (4, 13), (4, 14), (4, 15)] rfl) inX8) (iw_app iw_x_isMode (iw_app iw_x_found0N (iw_app iw_x_has (iw_app iw_x_stepOfF (iw_app iw_x_found1N iw_nil))))))
set_option maxRecDepth 20000 in
theorem iw_x_scheduleE : ∀ w ∈ wsP_x_scheduleE, w ∈ lw_tbl := by unfold wsP_x_scheduleE; exact iw_cons (gTb_m (c := 4) (i := 12) rfl) (iw_app (iw_app (gx_posT [(1, 231), (2, 226), (2, 227), (1, 1), (3, 99), (3, 101), (0, 23), (1, 1), (4, 1), (4, 2), (4, 3), (1, 6), (4, 13), (4, 14), (4, 15)] rfl) inX8) (iw_app iw_x_isMode (iw_app iw_x_found0E (iw_app iw_x_has (iw_app iw_x_stepOfF (iw_app iw_x_found1E iw_nil))))))
set_option maxRecDepth 20000 in
theorem iw_x_compareI : ∀ w ∈ wsP_x_compareI, w ∈ lw_tbl := by unfold wsP_x_compareI; exact iw_cons (gTb_m (c := 4) (i := 32) rfl) (iw_app iw_nil iw_nil)
set_option maxRecDepth 20000 in
theorem iw_x_cmp : ∀ w ∈ wsP_x_cmp, w ∈ lw_tbl := by unfold wsP_x_cmp; exact iw_cons (gTb_m (c := 4) (i := 28) rfl) (iw_app (gx_posT [(4, 29), (4, 6), (4, 7), (1, 6), (4, 30), (4, 31), (1, 18)] rfl) (iw_app iw_c_findInt (iw_app iw_x_compareI iw_nil)))
set_option maxRecDepth 20000 in
theorem iw_x_numberOther : ∀ w ∈ wsP_x_numberOther, w ∈ lw_tbl := by unfold wsP_x_numberOther; exact iw_cons (gTb_m (c := 4) (i := 24) rfl) (iw_app (iw_app (gx_posT [(1, 156), (4, 25), (4, 27), (0, 32), (1, 6)] rfl) inX2) (iw_app iw_x_cmp iw_nil))
set_option maxRecDepth 20000 in
theorem iw_x_moreN : ∀ w ∈ wsP_x_moreN, w ∈ lw_tbl := by unfold wsP_x_moreN; exact iw_cons (gTb_m (c := 4) (i := 20) rfl) (iw_app (iw_app (iw_app (gx_posT [(1, 231), (3, 99), (3, 101), (0, 23), (1, 1), (1, 154), (4, 21), (4, 22), (4, 23), (1, 6)] rfl) inX8) inX2) (iw_app iw_x_found1N (iw_app iw_x_found0E (iw_app iw_x_numberOther iw_nil))))
set_option maxRecDepth 20000 in
theorem iw_x_moreE : ∀ w ∈ wsP_x_moreE, w ∈ lw_tbl := by unfold wsP_x_moreE; exact iw_cons (gTb_m (c := 4) (i := 20) rfl) (iw_app (iw_app (iw_app (gx_posT [(1, 231), (3, 99), (3, 101), (0, 23), (1, 1), (1, 154), (4, 21), (4, 22), (4, 23), (1, 6)] rfl) inX8) inX2) (iw_app iw_x_found1E (iw_app iw_x_found0E (iw_app iw_x_numberOther iw_nil))))
set_option maxRecDepth 20000 in
theorem iw_c_start : ∀ w ∈ wsP_c_start, w ∈ lw_tbl := by unfold wsP_c_start; exact iw_cons (gTb_m (c := 2) (i := 236) rfl) (iw_app (iw_app (gx_posT [(1, 119), (2, 237), (2, 118), (1, 14), (2, 119), (1, 50), (2, 238), (3, 0), (2, 239), (1, 15)] rfl) inX7) inX4)
set_option maxRecDepth 20000 in
theorem iw_c_hashOf : ∀ w ∈ wsP_c_hashOf, w ∈ lw_tbl := by unfold wsP_c_hashOf; exact iw_cons (gTb_m (c := 3) (i := 169) rfl) (iw_app (iw_app (gx_posT [(3, 128), (3, 170)] rfl) inX1) iw_nil)
set_option maxRecDepth 20000 in
theorem iw_c_xSame : ∀ w ∈ wsP_c_xSame, w ∈ lw_tbl := by unfold wsP_c_xSame; exact iw_cons (gTb_m (c := 3) (i := 195) rfl) (iw_app (iw_app (gx_posT [(3, 128), (3, 129)] rfl) inX1) iw_nil)
