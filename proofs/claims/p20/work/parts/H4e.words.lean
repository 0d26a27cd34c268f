set_option maxRecDepth 20000 in
theorem iw_x_spots9 : ∀ w ∈ wsP_x_spots9, w ∈ lw_tbl := by unfold wsP_x_spots9; exact iw_cons (gTb_m (c := 6) (i := 136) rfl) (iw_app (iw_app (gx_posT [(4, 209), (4, 159), (4, 160), (4, 208)] rfl) inX9) iw_nil)
set_option maxRecDepth 20000 in
theorem iw_e_isPut9 : ∀ w ∈ wsP_e_isPut9, w ∈ lw_tbl := by unfold wsP_e_isPut9; exact iw_cons (gTb_m (c := 6) (i := 147) rfl) (iw_app iw_nil iw_nil)
set_option maxRecDepth 20000 in
theorem iw_x_leadsTo9 : ∀ w ∈ wsP_x_leadsTo9, w ∈ lw_tbl := by unfold wsP_x_leadsTo9; exact iw_cons (gTb_m (c := 6) (i := 151) rfl) (iw_app (iw_app (gx_posT [(4, 161), (6, 145), (6, 146), (1, 9), (4, 210), (4, 168)] rfl) inX9) (iw_app iw_e_isPut9 iw_nil))
set_option maxRecDepth 20000 in
theorem iw_y_fenced9 : ∀ w ∈ wsP_y_fenced9, w ∈ lw_tbl := by unfold wsP_y_fenced9; exact iw_cons (gTb_m (c := 6) (i := 144) rfl) (iw_app (iw_app (gx_posT [(4, 159), (4, 210), (4, 160), (6, 148), (6, 150), (0, 89), (1, 9), (6, 145), (6, 146), (1, 9), (5, 192), (5, 194), (0, 59), (4, 161), (4, 162), (4, 163), (4, 164), (4, 166)] rfl) inX9) (iw_app iw_x_leadsTo9 (iw_app iw_e_isPut9 (iw_app iw_c_copyIns9 iw_nil))))
set_option maxRecDepth 20000 in
theorem iw_z_cures9 : ∀ w ∈ wsP_z_cures9, w ∈ lw_tbl := by unfold wsP_z_cures9; exact iw_cons (gTb_m (c := 6) (i := 140) rfl) (iw_app (iw_app (gx_posT [(6, 141), (6, 143), (0, 88), (1, 9), (6, 47), (6, 49), (0, 72), (4, 177), (4, 180), (4, 179), (6, 80), (6, 82), (0, 79)] rfl) inX9) (iw_app iw_y_fenced9 (iw_app iw_x_explore9 (iw_app iw_x_compare9 iw_nil))))
set_option maxRecDepth 20000 in
theorem iw_z_cure9 : ∀ w ∈ wsP_z_cure9, w ∈ lw_tbl := by unfold wsP_z_cure9; exact iw_cons (gTb_m (c := 6) (i := 132) rfl) (iw_app (iw_app (gx_posT [(4, 170), (6, 43), (6, 45), (0, 71), (1, 9), (6, 133), (6, 135), (0, 86), (6, 137), (6, 139), (0, 87), (4, 209), (4, 206), (4, 207), (4, 208)] rfl) inX9) (iw_app iw_x_explored9 (iw_app iw_x_spots9 (iw_app iw_z_cures9 iw_nil))))
set_option maxRecDepth 20000 in
theorem iw_c_cured9 : ∀ w ∈ wsP_c_cured9, w ∈ lw_tbl := by unfold wsP_c_cured9; exact iw_cons (gTb_m (c := 6) (i := 155) rfl) (iw_app (iw_app (gx_posT [(4, 170), (4, 206), (4, 207)] rfl) inX9) iw_nil)
set_option maxRecDepth 20000 in
theorem iw_c_findSpots9 : ∀ w ∈ wsP_c_findSpots9, w ∈ lw_tbl := by unfold wsP_c_findSpots9; exact iw_cons (gTb_m (c := 6) (i := 136) rfl) (iw_app (iw_app (gx_posT [(4, 209), (4, 159), (4, 160), (4, 208)] rfl) inX9) iw_nil)
set_option maxRecDepth 20000 in
theorem iw_c_isEnd9 : ∀ w ∈ wsP_c_isEnd9, w ∈ lw_tbl := by unfold wsP_c_isEnd9; exact iw_cons (gTb_m (c := 6) (i := 71) rfl) (iw_app (iw_app (gx_posT [(4, 159), (4, 160), (5, 228), (5, 229), (1, 9)] rfl) inX9) (iw_app iw_c_rowAt9 iw_nil))
set_option maxRecDepth 20000 in
theorem iw_x_count9 : ∀ w ∈ wsP_x_count9, w ∈ lw_tbl := by unfold wsP_x_count9; exact iw_cons (gTb_m (c := 6) (i := 159) rfl) (iw_app (iw_app (gx_posT [(4, 170), (6, 133), (6, 135), (0, 86), (1, 9), (4, 209), (4, 159), (4, 160), (6, 43), (6, 45), (0, 71), (4, 176), (4, 180), (4, 185), (4, 184), (4, 182), (6, 68), (6, 70), (0, 76), (4, 187)] rfl) inX9) (iw_app iw_c_findSpots9 (iw_app iw_x_explored9 (iw_app iw_c_isEnd9 iw_nil))))
set_option maxRecDepth 20000 in
theorem iw_c_X8_init : ∀ w ∈ wsP_c_X8_init, w ∈ lw_tbl := by unfold wsP_c_X8_init; exact iw_cons (gTb_m (c := 1) (i := 23) rfl) (iw_app (iw_app (iw_app (iw_app (iw_app (iw_app (iw_app (iw_app (gx_posT [(1, 24), (1, 25), (1, 26), (1, 64), (1, 227), (1, 27), (1, 28), (1, 2), (1, 32), (1, 33), (1, 34), (1, 3), (1, 38), (1, 65), (1, 44), (1, 49), (1, 52), (1, 37), (1, 36), (1, 66), (1, 68), (1, 72), (1, 73), (1, 74), (1, 75), (1, 31), (1, 30), (1, 229), (1, 230), (1, 105), (1, 232), (1, 107), (1, 108), (1, 4), (1, 112), (1, 113), (1, 114), (1, 5), (1, 118), (1, 119), (1, 117), (1, 116), (1, 125), (1, 132), (1, 111), (1, 110), (1, 233), (1, 144), (1, 145), (1, 6), (1, 149), (1, 158), (1, 148), (1, 147), (1, 235), (1, 236), (1, 170), (1, 171), (1, 7), (1, 175), (1, 184), (1, 174), (1, 173), (1, 237), (1, 200), (1, 201), (1, 8), (1, 205), (1, 206), (1, 208), (1, 210), (1, 211), (1, 213), (1, 204), (1, 203), (1, 238)] rfl) inX8) inX6) inX4) inX3) inX7) inX2) inX5) inX0)
set_option maxRecDepth 20000 in
theorem iw_c_X9_init : ∀ w ∈ wsP_c_X9_init, w ∈ lw_tbl := by unfold wsP_c_X9_init; exact iw_cons (gTb_m (c := 4) (i := 156) rfl) (iw_app (gx_posT [(4, 157), (1, 25), (1, 26), (1, 65), (4, 159), (4, 160), (4, 161), (4, 162), (4, 163), (4, 164), (4, 165), (4, 166), (4, 167), (4, 168), (4, 169), (4, 158), (4, 171), (4, 172), (4, 173), (4, 174), (4, 175), (4, 176), (5, 76), (4, 177), (4, 178), (4, 179), (4, 180), (4, 181), (4, 182), (4, 183), (4, 185), (1, 64), (4, 186), (4, 189), (4, 199), (4, 200), (4, 204), (4, 206), (4, 207), (4, 208), (4, 210)] rfl) inX9)
