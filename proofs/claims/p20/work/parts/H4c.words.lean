set_option maxRecDepth 20000 in
theorem iw_c_add : ∀ w ∈ wsP_c_add, w ∈ lw_tbl := by unfold wsP_c_add; exact iw_cons (gTb_m (c := 3) (i := 174) rfl) (iw_app (iw_app (gx_posT [(3, 115), (3, 128), (3, 129), (3, 191), (3, 0), (2, 239), (1, 15), (3, 131), (3, 130), (3, 175), (3, 176), (3, 177), (1, 17), (3, 178), (3, 179), (3, 180), (1, 14)] rfl) inX1) (iw_app iw_c_copyOf iw_nil))
set_option maxRecDepth 20000 in
theorem iw_c_keep : ∀ w ∈ wsP_c_keep, w ∈ lw_tbl := by unfold wsP_c_keep; exact iw_cons (gTb_m (c := 3) (i := 165) rfl) (iw_app (iw_app (gx_posT [(3, 166), (3, 168), (0, 26), (1, 16), (3, 130), (3, 192), (3, 194), (0, 28), (3, 171), (3, 173), (0, 27)] rfl) inX1) (iw_app iw_c_hashOf (iw_app iw_c_xSame (iw_app iw_c_add iw_nil))))
set_option maxRecDepth 20000 in
theorem iw_c_hasEnded : ∀ w ∈ wsP_c_hasEnded, w ∈ lw_tbl := by unfold wsP_c_hasEnded; exact iw_cons (gTb_m (c := 3) (i := 203) rfl) (iw_app (iw_app (gx_posT [(1, 40), (1, 119), (1, 47)] rfl) inX4) inX7)
set_option maxRecDepth 20000 in
theorem iw_c_can : ∀ w ∈ wsP_c_can, w ∈ lw_tbl := by unfold wsP_c_can; exact iw_cons (gTb_m (c := 3) (i := 12) rfl) (iw_app (iw_app (gx_posT [(1, 40), (3, 17), (3, 18), (3, 19), (1, 5), (1, 119), (3, 20), (1, 47), (3, 13), (3, 14), (3, 15), (3, 16), (3, 21), (2, 198), (2, 199), (1, 3), (1, 52), (2, 160), (2, 161), (2, 162), (2, 200), (3, 22), (3, 23), (3, 25), (3, 26), (3, 27), (3, 24)] rfl) inX4) inX7)
set_option maxRecDepth 20000 in
theorem iw_c_moveG : ∀ w ∈ wsP_c_moveG, w ∈ lw_tbl := by unfold wsP_c_moveG; exact iw_cons (gTb_m (c := 3) (i := 31) rfl) (iw_app (gx_posT [(3, 32), (3, 34), (0, 17), (1, 5), (1, 119), (3, 36), (3, 37), (3, 38), (3, 39), (2, 238), (3, 0), (2, 239), (1, 15), (3, 40), (3, 35)] rfl) inX7)
set_option maxRecDepth 20000 in
theorem iw_c_moveK : ∀ w ∈ wsP_c_moveK, w ∈ lw_tbl := by unfold wsP_c_moveK; exact iw_cons (gTb_m (c := 3) (i := 31) rfl) (iw_app (iw_app (gx_posT [(1, 53), (3, 17), (3, 18), (3, 19), (1, 5), (1, 119), (3, 20), (3, 41), (2, 161), (1, 3), (2, 162), (3, 42), (3, 44), (0, 18), (3, 13), (3, 14), (3, 15), (3, 16), (3, 36), (3, 37), (3, 38), (3, 39), (3, 46), (3, 47), (3, 48), (3, 49), (3, 45), (3, 50), (3, 52), (0, 19), (3, 53), (3, 54), (3, 56), (0, 20), (3, 57), (3, 58), (3, 60), (0, 21), (3, 62), (3, 61), (3, 63), (3, 65), (0, 22), (3, 66)] rfl) inX4) inX7)
set_option maxRecDepth 20000 in
theorem iw_c_isBefore : ∀ w ∈ wsP_c_isBefore, w ∈ lw_tbl := by unfold wsP_c_isBefore; exact iw_cons (gTb_m (c := 3) (i := 211) rfl) (iw_app (iw_app (gx_posT [(3, 129), (3, 128)] rfl) inX1) iw_nil)
set_option maxRecDepth 20000 in
theorem iw_c_addEnd : ∀ w ∈ wsP_c_addEnd, w ∈ lw_tbl := by unfold wsP_c_addEnd; exact iw_cons (gTb_m (c := 3) (i := 207) rfl) (iw_app (iw_app (gx_posT [(3, 118), (3, 120), (3, 191), (3, 0), (2, 239), (1, 15), (3, 208), (3, 210), (0, 30), (1, 16)] rfl) inX1) (iw_app iw_c_isBefore iw_nil))
set_option maxRecDepth 20000 in
theorem iw_c_explore : ∀ w ∈ wsP_c_explore, w ∈ lw_tbl := by unfold wsP_c_explore; exact iw_cons (gTb_m (c := 3) (i := 156) rfl) (iw_app (iw_app (iw_app (gx_posT [(3, 130), (3, 157), (2, 118), (1, 14), (3, 115), (3, 118), (3, 158), (3, 159), (1, 5), (3, 128), (3, 125), (3, 161), (2, 234), (2, 235), (1, 5), (1, 120), (3, 162), (3, 164), (0, 25), (1, 16), (3, 196), (3, 197), (3, 198), (3, 200), (3, 201), (3, 202), (3, 212), (3, 10), (3, 11), (3, 127), (3, 191), (3, 0), (2, 239), (1, 15), (3, 213), (3, 29), (3, 30), (3, 204), (3, 206), (0, 29)] rfl) inX1) inX7) (iw_app iw_c_fill (iw_app iw_c_widthOf (iw_app iw_c_start (iw_app iw_c_keep (iw_app iw_c_fetch (iw_app iw_c_hasEnded (iw_app iw_c_can (iw_app iw_c_moveG (iw_app iw_c_moveK (iw_app iw_c_addEnd iw_nil)))))))))))
set_option maxRecDepth 20000 in
theorem iw_c_loadedCell : ∀ w ∈ wsP_c_loadedCell, w ∈ lw_tbl := by unfold wsP_c_loadedCell; exact iw_cons (gTb_m (c := 4) (i := 53) rfl) (iw_app (iw_app (gx_posT [(4, 54), (3, 18), (3, 19), (1, 5), (1, 45), (4, 55), (2, 198), (2, 199), (1, 3)] rfl) inX4) (iw_app iw_c_nextOf (iw_app iw_c_part iw_nil)))
set_option maxRecDepth 20000 in
theorem iw_c_storedTo : ∀ w ∈ wsP_c_storedTo, w ∈ lw_tbl := by unfold wsP_c_storedTo; exact iw_cons (gTb_m (c := 4) (i := 59) rfl) (iw_app (gx_posT [(1, 119)] rfl) inX7)
set_option maxRecDepth 20000 in
theorem iw_c_isLocked : ∀ w ∈ wsP_c_isLocked, w ∈ lw_tbl := by unfold wsP_c_isLocked; exact iw_cons (gTb_m (c := 3) (i := 27) rfl) iw_nil
set_option maxRecDepth 20000 in
theorem iw_c_writes : ∀ w ∈ wsP_c_writes, w ∈ lw_tbl := by unfold wsP_c_writes; exact iw_cons (gTb_m (c := 4) (i := 62) rfl) (iw_app (iw_app (gx_posT [(4, 54), (3, 18), (3, 19), (1, 5), (1, 45), (4, 55), (2, 198), (2, 199), (1, 3), (4, 63), (3, 26), (1, 5)] rfl) inX4) (iw_app iw_c_nextOf (iw_app iw_c_part (iw_app iw_c_isLocked iw_nil))))
set_option maxRecDepth 20000 in
theorem iw_c_isRace : ∀ w ∈ wsP_c_isRace, w ∈ lw_tbl := by unfold wsP_c_isRace; exact iw_cons (gTb_m (c := 4) (i := 50) rfl) (iw_app (iw_app (iw_app (gx_posT [(1, 41), (4, 51), (4, 52), (1, 7), (4, 56), (4, 57), (4, 58), (1, 5), (4, 60), (4, 61), (1, 7), (1, 180), (1, 181), (1, 182)] rfl) inX4) inX5) (iw_app iw_c_loadedCell (iw_app iw_c_storedTo (iw_app iw_c_writes iw_nil))))
set_option maxRecDepth 20000 in
theorem iw_c_pathTo : ∀ w ∈ wsP_c_pathTo, w ∈ lw_tbl := by unfold wsP_c_pathTo; exact iw_cons (gTb_m (c := 3) (i := 236) rfl) (iw_app (iw_app (gx_posT [(3, 122), (3, 131)] rfl) inX1) iw_nil)
set_option maxRecDepth 20000 in
theorem iw_c_search : ∀ w ∈ wsP_c_search, w ∈ lw_tbl := by unfold wsP_c_search; exact iw_cons (gTb_m (c := 4) (i := 44) rfl) (iw_app (iw_app (iw_app (gx_posT [(1, 176), (1, 178), (4, 45), (3, 154), (3, 155), (1, 16), (3, 117), (4, 46), (3, 197), (3, 198), (3, 126), (4, 47), (4, 49), (0, 34), (1, 7), (4, 64), (3, 234), (3, 235), (1, 183), (3, 123), (1, 184), (4, 65), (3, 0), (2, 239), (1, 15)] rfl) inX5) inX1) (iw_app iw_c_explore (iw_app iw_c_fetch (iw_app iw_c_isRace (iw_app iw_c_pathTo iw_nil)))))
set_option maxRecDepth 20000 in
theorem iw_c_findRaceN : ∀ w ∈ wsP_c_findRaceN, w ∈ lw_tbl := by unfold wsP_c_findRaceN; exact iw_cons (gTb_m (c := 4) (i := 40) rfl) (iw_app (iw_app (iw_app (gx_posT [(1, 237), (1, 177), (1, 232), (3, 103), (3, 105), (0, 24), (1, 1), (4, 41), (4, 42), (4, 43), (1, 7)] rfl) inX8) inX5) (iw_app iw_c_atHandN (iw_app iw_c_search iw_nil)))
set_option maxRecDepth 20000 in
theorem iw_c_raceN : ∀ w ∈ wsP_c_raceN, w ∈ lw_tbl := by unfold wsP_c_raceN; exact iw_cons (gTb_m (c := 4) (i := 36) rfl) (iw_app (iw_app (iw_app (gx_posT [(1, 231), (4, 37), (4, 39), (0, 33), (1, 1), (1, 237), (1, 179)] rfl) inX8) inX5) (iw_app iw_c_findRaceN iw_nil))
set_option maxRecDepth 20000 in
theorem iw_c_findRaceE : ∀ w ∈ wsP_c_findRaceE, w ∈ lw_tbl := by unfold wsP_c_findRaceE; exact iw_cons (gTb_m (c := 4) (i := 40) rfl) (iw_app (iw_app (iw_app (gx_posT [(1, 237), (1, 177), (1, 232), (3, 103), (3, 105), (0, 24), (1, 1), (4, 41), (4, 42), (4, 43), (1, 7)] rfl) inX8) inX5) (iw_app iw_c_atHandE (iw_app iw_c_search iw_nil)))
set_option maxRecDepth 20000 in
theorem iw_c_raceE : ∀ w ∈ wsP_c_raceE, w ∈ lw_tbl := by unfold wsP_c_raceE; exact iw_cons (gTb_m (c := 4) (i := 36) rfl) (iw_app (iw_app (iw_app (gx_posT [(1, 231), (4, 37), (4, 39), (0, 33), (1, 1), (1, 237), (1, 179)] rfl) inX8) inX5) (iw_app iw_c_findRaceE iw_nil))
set_option maxRecDepth 20000 in
theorem iw_c_tell : ∀ w ∈ wsP_c_tell, w ∈ lw_tbl := by unfold wsP_c_tell; exact iw_cons (gTb_m (c := 4) (i := 73) rfl) (iw_app (iw_app (gx_posT [(1, 178), (1, 180), (1, 181), (1, 182), (1, 183), (1, 184)] rfl) inX5) iw_nil)
set_option maxRecDepth 20000 in
theorem iw_c_racerN : ∀ w ∈ wsP_c_racerN, w ∈ lw_tbl := by unfold wsP_c_racerN; exact iw_cons (gTb_m (c := 4) (i := 69) rfl) (iw_app (iw_app (gx_posT [(1, 231), (4, 37), (4, 39), (0, 33), (1, 1), (1, 237), (4, 70), (4, 71), (4, 72), (1, 7)] rfl) inX8) (iw_app iw_c_findRaceN (iw_app iw_c_tell iw_nil)))
set_option maxRecDepth 20000 in
theorem iw_c_racerE : ∀ w ∈ wsP_c_racerE, w ∈ lw_tbl := by unfold wsP_c_racerE; exact iw_cons (gTb_m (c := 4) (i := 69) rfl) (iw_app (iw_app (gx_posT [(1, 231), (4, 37), (4, 39), (0, 33), (1, 1), (1, 237), (4, 70), (4, 71), (4, 72), (1, 7)] rfl) inX8) (iw_app iw_c_findRaceE (iw_app iw_c_tell iw_nil)))
set_option maxRecDepth 20000 in
theorem iw_x_plInAll : ∀ w ∈ wsP_x_plInAll, w ∈ lw_tbl := by unfold wsP_x_plInAll; exact iw_cons (gTb_m (c := 4) (i := 89) rfl) (iw_app (iw_app (gx_posT [(1, 39), (1, 44), (4, 90), (4, 91), (1, 17), (4, 92)] rfl) inX4) iw_nil)
set_option maxRecDepth 20000 in
theorem iw_c_hasRoom : ∀ w ∈ wsP_c_hasRoom, w ∈ lw_tbl := by unfold wsP_c_hasRoom; exact iw_cons (gTb_m (c := 4) (i := 106) rfl) (iw_app (gx_posT [(1, 44)] rfl) inX4)
set_option maxRecDepth 20000 in
theorem iw_x_within : ∀ w ∈ wsP_x_within, w ∈ lw_tbl := by unfold wsP_x_within; exact iw_cons (gTb_m (c := 4) (i := 111) rfl) (iw_app iw_nil iw_nil)
set_option maxRecDepth 20000 in
theorem iw_c_copyIns : ∀ w ∈ wsP_c_copyIns, w ∈ lw_tbl := by unfold wsP_c_copyIns; exact iw_cons (gTb_m (c := 4) (i := 115) rfl) (iw_app (gx_posT [(2, 160), (2, 161), (1, 3), (2, 162), (1, 52), (4, 107), (2, 157), (2, 158), (1, 44), (2, 159), (4, 102), (3, 0), (2, 239), (1, 15)] rfl) inX4)
set_option maxRecDepth 20000 in
theorem iw_x_becomeFenced : ∀ w ∈ wsP_x_becomeFenced, w ∈ lw_tbl := by unfold wsP_x_becomeFenced; exact iw_cons (gTb_m (c := 4) (i := 100) rfl) (iw_app (iw_app (gx_posT [(4, 101), (2, 114), (2, 115), (1, 3), (1, 39), (1, 49), (4, 102), (3, 0), (2, 239), (1, 15), (1, 44), (4, 103), (4, 104), (4, 105), (4, 108), (2, 198), (2, 199), (4, 109), (4, 110), (1, 3), (4, 112), (4, 114), (0, 36), (4, 107), (2, 157), (2, 158)] rfl) inX4) (iw_app iw_c_clear (iw_app iw_c_hasRoom (iw_app iw_c_part (iw_app iw_x_within (iw_app iw_c_copyIns (iw_app iw_c_addBlank iw_nil)))))))
set_option maxRecDepth 20000 in
theorem iw_x_fSame : ∀ w ∈ wsP_x_fSame, w ∈ lw_tbl := by unfold wsP_x_fSame; exact iw_cons (gTb_m (c := 4) (i := 120) rfl) (iw_app (iw_app (iw_app (gx_posT [(3, 119), (1, 156), (4, 29), (4, 6), (4, 7), (1, 6), (3, 121), (3, 223), (3, 224), (3, 225), (1, 16)] rfl) inX1) inX2) (iw_app iw_c_findInt (iw_app iw_x_xInt iw_nil)))
set_option maxRecDepth 20000 in
theorem iw_x_look0 : ∀ w ∈ wsP_x_look0, w ∈ lw_tbl := by unfold wsP_x_look0; exact iw_cons (gTb_m (c := 4) (i := 85) rfl) (iw_app (iw_app (gx_posT [(4, 86), (4, 87), (4, 88), (1, 3), (1, 211), (1, 208), (4, 97), (4, 98), (4, 99), (4, 116), (3, 154), (3, 155), (1, 16), (4, 117), (4, 118), (4, 119), (1, 6)] rfl) inX0) (iw_app iw_x_plInAll (iw_app iw_x_becomeFenced (iw_app iw_x_explore (iw_app iw_x_fSame iw_nil)))))
set_option maxRecDepth 20000 in
theorem iw_x_placeOf : ∀ w ∈ wsP_x_placeOf, w ∈ lw_tbl := by unfold wsP_x_placeOf; exact iw_cons (gTb_m (c := 4) (i := 96) rfl) (iw_app (iw_app (gx_posT [(1, 39), (1, 44), (4, 90), (4, 91), (1, 17), (4, 92)] rfl) inX4) iw_nil)
set_option maxRecDepth 20000 in
theorem iw_x_look1 : ∀ w ∈ wsP_x_look1, w ∈ lw_tbl := by unfold wsP_x_look1; exact iw_cons (gTb_m (c := 4) (i := 85) rfl) (iw_app (iw_app (gx_posT [(4, 86), (4, 87), (4, 88), (1, 3), (1, 211), (4, 93), (4, 94), (4, 95), (1, 208), (4, 97), (4, 98), (4, 99), (4, 116), (3, 154), (3, 155), (1, 16), (4, 117), (4, 118), (4, 119), (1, 6)] rfl) inX0) (iw_app iw_x_plInAll (iw_app iw_x_placeOf (iw_app iw_x_becomeFenced (iw_app iw_x_explore (iw_app iw_x_fSame iw_nil))))))
set_option maxRecDepth 20000 in
theorem iw_x_look2 : ∀ w ∈ wsP_x_look2, w ∈ lw_tbl := by unfold wsP_x_look2; exact iw_cons (gTb_m (c := 4) (i := 85) rfl) (iw_app (iw_app (gx_posT [(4, 86), (4, 87), (4, 88), (1, 3), (1, 211), (4, 93), (4, 94), (4, 95), (1, 208), (4, 97), (4, 98), (4, 99), (4, 116), (3, 154), (3, 155), (1, 16), (4, 117), (4, 118), (4, 119), (1, 6)] rfl) inX0) (iw_app iw_x_plInAll (iw_app iw_x_placeOf (iw_app iw_x_becomeFenced (iw_app iw_x_explore (iw_app iw_x_fSame iw_nil))))))
set_option maxRecDepth 20000 in
theorem iw_x_least : ∀ w ∈ wsP_x_least, w ∈ lw_tbl := by unfold wsP_x_least; exact iw_cons (gTb_m (c := 4) (i := 81) rfl) (iw_app (iw_app (iw_app (gx_posT [(1, 209), (1, 210), (1, 212), (1, 211), (1, 213), (4, 121), (3, 0), (2, 239), (1, 15), (1, 153), (4, 82), (4, 84), (0, 35), (1, 8)] rfl) inX0) inX2) (iw_app iw_x_look0 (iw_app iw_x_look1 (iw_app iw_x_look2 iw_nil))))
set_option maxRecDepth 20000 in
theorem iw_y_cureN : ∀ w ∈ wsP_y_cureN, w ∈ lw_tbl := by unfold wsP_y_cureN; exact iw_cons (gTb_m (c := 4) (i := 77) rfl) (iw_app (iw_app (gx_posT [(1, 231), (3, 99), (3, 101), (0, 23), (1, 1), (1, 238), (1, 232), (3, 103), (3, 105), (0, 24), (4, 78), (4, 79), (4, 80), (1, 8)] rfl) inX8) (iw_app iw_x_found0N (iw_app iw_c_atHandE (iw_app iw_x_least iw_nil))))
set_option maxRecDepth 20000 in
theorem iw_y_cureE : ∀ w ∈ wsP_y_cureE, w ∈ lw_tbl := by unfold wsP_y_cureE; exact iw_cons (gTb_m (c := 4) (i := 77) rfl) (iw_app (iw_app (gx_posT [(1, 231), (3, 99), (3, 101), (0, 23), (1, 1), (1, 238), (1, 232), (3, 103), (3, 105), (0, 24), (4, 78), (4, 79), (4, 80), (1, 8)] rfl) inX8) (iw_app iw_x_found0E (iw_app iw_c_atHandE (iw_app iw_x_least iw_nil))))
set_option maxRecDepth 20000 in
theorem iw_c_toldPlace : ∀ w ∈ wsP_c_toldPlace, w ∈ lw_tbl := by unfold wsP_c_toldPlace; exact iw_cons (gTb_m (c := 4) (i := 129) rfl) (iw_app (gx_posT [(1, 212), (1, 213)] rfl) inX0)
set_option maxRecDepth 20000 in
theorem iw_c_cured8 : ∀ w ∈ wsP_c_cured8, w ∈ lw_tbl := by unfold wsP_c_cured8; exact iw_cons (gTb_m (c := 4) (i := 125) rfl) (iw_app (iw_app (gx_posT [(1, 238), (4, 126), (4, 127), (4, 128), (1, 8)] rfl) inX8) (iw_app iw_c_toldPlace iw_nil))
set_option maxRecDepth 20000 in
theorem iw_c_insInAll : ∀ w ∈ wsP_c_insInAll, w ∈ lw_tbl := by unfold wsP_c_insInAll; exact iw_cons (gTb_m (c := 4) (i := 141) rfl) (iw_app (gx_posT [(1, 39), (1, 44)] rfl) inX4)
set_option maxRecDepth 20000 in
theorem iw_c_statesOr : ∀ w ∈ wsP_c_statesOr, w ∈ lw_tbl := by unfold wsP_c_statesOr; exact iw_cons (gTb_m (c := 4) (i := 145) rfl) (iw_app (iw_app (gx_posT [(1, 152), (1, 155)] rfl) inX2) iw_nil)
set_option maxRecDepth 20000 in
theorem iw_c_sizeOr : ∀ w ∈ wsP_c_sizeOr, w ∈ lw_tbl := by unfold wsP_c_sizeOr; exact iw_cons (gTb_m (c := 4) (i := 149) rfl) (iw_app (iw_app (gx_posT [(1, 152), (1, 156)] rfl) inX2) iw_nil)
set_option maxRecDepth 20000 in
theorem iw_c_placesInAll : ∀ w ∈ wsP_c_placesInAll, w ∈ lw_tbl := by unfold wsP_c_placesInAll; exact iw_cons (gTb_m (c := 4) (i := 89) rfl) (iw_app (gx_posT [(1, 39), (1, 44), (4, 90), (4, 91), (1, 17), (4, 92)] rfl) inX4)
set_option maxRecDepth 20000 in
theorem iw_x_countOfProgramN : ∀ w ∈ wsP_x_countOfProgramN, w ∈ lw_tbl := by unfold wsP_x_countOfProgramN; exact iw_cons (gTb_m (c := 4) (i := 137) rfl) (iw_app (iw_app (iw_app (iw_app (gx_posT [(1, 232), (1, 42), (4, 138), (4, 139), (4, 140), (1, 3), (3, 99), (3, 101), (0, 23), (1, 1), (4, 142), (4, 143), (4, 144), (1, 6), (4, 146), (4, 147), (4, 148), (1, 233), (1, 128), (1, 130), (1, 126), (4, 150), (3, 201), (3, 202), (1, 5), (4, 151), (4, 87), (4, 88)] rfl) inX8) inX4) inX3) (iw_app iw_c_insInAll (iw_app iw_x_found1N (iw_app iw_c_statesOr (iw_app iw_x_found0N (iw_app iw_c_sizeOr (iw_app iw_x_hasEnded (iw_app iw_c_placesInAll iw_nil))))))))
set_option maxRecDepth 20000 in
theorem iw_x_countN : ∀ w ∈ wsP_x_countN, w ∈ lw_tbl := by unfold wsP_x_countN; exact iw_cons (gTb_m (c := 4) (i := 133) rfl) (iw_app (iw_app (gx_posT [(1, 231), (4, 134), (4, 136), (0, 37), (1, 1), (1, 228)] rfl) inX8) (iw_app iw_x_countOfProgramN iw_nil))
set_option maxRecDepth 20000 in
theorem iw_x_countOfProgramE : ∀ w ∈ wsP_x_countOfProgramE, w ∈ lw_tbl := by unfold wsP_x_countOfProgramE; exact iw_cons (gTb_m (c := 4) (i := 137) rfl) (iw_app (iw_app (iw_app (iw_app (gx_posT [(1, 232), (1, 42), (4, 138), (4, 139), (4, 140), (1, 3), (3, 99), (3, 101), (0, 23), (1, 1), (4, 142), (4, 143), (4, 144), (1, 6), (4, 146), (4, 147), (4, 148), (1, 233), (1, 128), (1, 130), (1, 126), (4, 150), (3, 201), (3, 202), (1, 5), (4, 151), (4, 87), (4, 88)] rfl) inX8) inX4) inX3) (iw_app iw_c_insInAll (iw_app iw_x_found1E (iw_app iw_c_statesOr (iw_app iw_x_found0E (iw_app iw_c_sizeOr (iw_app iw_x_hasEnded (iw_app iw_c_placesInAll iw_nil))))))))
set_option maxRecDepth 20000 in
theorem iw_x_countE : ∀ w ∈ wsP_x_countE, w ∈ lw_tbl := by unfold wsP_x_countE; exact iw_cons (gTb_m (c := 4) (i := 133) rfl) (iw_app (iw_app (gx_posT [(1, 231), (4, 134), (4, 136), (0, 37), (1, 1), (1, 228)] rfl) inX8) (iw_app iw_x_countOfProgramE iw_nil))
set_option maxRecDepth 20000 in
theorem iw_x_X9_byteRow : ∀ w ∈ wsP_x_X9_byteRow, w ∈ lw_tbl := by unfold wsP_x_X9_byteRow; exact iw_cons (gTb_m (c := 5) (i := 84) rfl) (iw_app (iw_app (gx_posT [(4, 186), (4, 187)] rfl) inX9) iw_nil)
set_option maxRecDepth 20000 in
theorem iw_x_X9_feed : ∀ w ∈ wsP_x_X9_feed, w ∈ lw_tbl := by unfold wsP_x_X9_feed; exact iw_cons (gTb_m (c := 5) (i := 80) rfl) (iw_app (iw_app (gx_posT [(4, 187), (5, 81), (5, 83), (0, 38), (1, 9)] rfl) inX9) (iw_app iw_x_X9_byteRow iw_nil))
set_option maxRecDepth 20000 in
theorem iw_c_X9_back : ∀ w ∈ wsP_c_X9_back, w ∈ lw_tbl := by unfold wsP_c_X9_back; exact iw_cons (gTb_m (c := 5) (i := 88) rfl) (iw_app (gx_posT [(4, 187)] rfl) inX9)
set_option maxRecDepth 20000 in
theorem iw_c_seen9 : ∀ w ∈ wsP_c_seen9, w ∈ lw_tbl := by unfold wsP_c_seen9; exact iw_cons (gTb_m (c := 5) (i := 100) rfl) (iw_app (iw_app (gx_posT [(4, 187), (4, 186)] rfl) inX9) iw_nil)
set_option maxRecDepth 20000 in
theorem iw_x_isLetter9 : ∀ w ∈ wsP_x_isLetter9, w ∈ lw_tbl := by unfold wsP_x_isLetter9; exact iw_cons (gTb_m (c := 5) (i := 104) rfl) (iw_app (gx_posT [(5, 97), (5, 99), (0, 40), (1, 9)] rfl) (iw_app iw_c_seen9 iw_nil))
set_option maxRecDepth 20000 in
theorem iw_x_isDigit9 : ∀ w ∈ wsP_x_isDigit9, w ∈ lw_tbl := by unfold wsP_x_isDigit9; exact iw_cons (gTb_m (c := 5) (i := 108) rfl) (iw_app (gx_posT [(5, 97), (5, 99), (0, 40), (1, 9)] rfl) (iw_app iw_c_seen9 iw_nil))
set_option maxRecDepth 20000 in
theorem iw_x_token9 : ∀ w ∈ wsP_x_token9, w ∈ lw_tbl := by unfold wsP_x_token9; exact iw_cons (gTb_m (c := 5) (i := 96) rfl) (iw_app (iw_app (gx_posT [(4, 192), (4, 187), (4, 191), (5, 97), (5, 99), (0, 40), (1, 9), (4, 193), (5, 101), (5, 103), (0, 41), (5, 105), (5, 107), (0, 42), (4, 190), (4, 186)] rfl) inX9) (iw_app iw_c_seen9 (iw_app iw_x_isLetter9 (iw_app iw_x_isDigit9 iw_nil))))
set_option maxRecDepth 20000 in
theorem iw_x_isWord9 : ∀ w ∈ wsP_x_isWord9, w ∈ lw_tbl := by unfold wsP_x_isWord9; exact iw_cons (gTb_m (c := 5) (i := 117) rfl) (iw_app (iw_app (gx_posT [(4, 190), (4, 193)] rfl) inX9) iw_nil)
set_option maxRecDepth 20000 in
theorem iw_c_stop9 : ∀ w ∈ wsP_c_stop9, w ∈ lw_tbl := by unfold wsP_c_stop9; exact iw_cons (gTb_m (c := 5) (i := 125) rfl) (iw_app (iw_app (gx_posT [(4, 188), (4, 189), (4, 195)] rfl) inX9) iw_nil)
set_option maxRecDepth 20000 in
theorem iw_x_pass9 : ∀ w ∈ wsP_x_pass9, w ∈ lw_tbl := by unfold wsP_x_pass9; exact iw_cons (gTb_m (c := 5) (i := 121) rfl) (iw_app (iw_app (gx_posT [(4, 194), (5, 93), (5, 95), (0, 39), (1, 9), (4, 191), (5, 122), (5, 124), (0, 46)] rfl) inX9) (iw_app iw_x_token9 (iw_app iw_c_stop9 iw_nil)))
set_option maxRecDepth 20000 in
theorem iw_x_sign9 : ∀ w ∈ wsP_x_sign9, w ∈ lw_tbl := by unfold wsP_x_sign9; exact iw_cons (gTb_m (c := 5) (i := 141) rfl) (iw_app (iw_app (gx_posT [(4, 190), (4, 191), (5, 122), (5, 124), (0, 46), (1, 9), (4, 193), (5, 118), (5, 120), (0, 45)] rfl) inX9) (iw_app iw_c_stop9 (iw_app iw_x_pass9 iw_nil)))
set_option maxRecDepth 20000 in
theorem iw_x_words9 : ∀ w ∈ wsP_x_words9, w ∈ lw_tbl := by unfold wsP_x_words9; exact iw_cons (gTb_m (c := 5) (i := 186) rfl) (iw_app (iw_app (gx_posT [(5, 114), (5, 116), (0, 44), (1, 9), (4, 191), (5, 122), (5, 124), (0, 46), (5, 118), (5, 120), (0, 45)] rfl) inX9) (iw_app iw_x_isWord9 (iw_app iw_c_stop9 (iw_app iw_x_pass9 iw_nil))))
set_option maxRecDepth 20000 in
theorem iw_x_tell9 : ∀ w ∈ wsP_x_tell9, w ∈ lw_tbl := by unfold wsP_x_tell9; exact iw_cons (gTb_m (c := 5) (i := 137) rfl) (iw_app (iw_app (gx_posT [(4, 188), (4, 189)] rfl) inX9) iw_nil)
set_option maxRecDepth 20000 in
theorem iw_c_began9 : ∀ w ∈ wsP_c_began9, w ∈ lw_tbl := by unfold wsP_c_began9; exact iw_cons (gTb_m (c := 5) (i := 154) rfl) (iw_app (gx_posT [(5, 155), (5, 156), (5, 157), (5, 158), (5, 159), (5, 160), (5, 161), (5, 162), (5, 163)] rfl) iw_nil)
