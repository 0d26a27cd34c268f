set_option maxRecDepth 20000 in
theorem iw_e_isPut9 : ∀ w ∈ wsP_e_isPut9, w ∈ lw_tbl := by unfold wsP_e_isPut9; exact iw_cons (List.mem_of_getElem? (i := 1437) (by decide +kernel)) (iw_app iw_nil iw_nil)
set_option maxRecDepth 20000 in
theorem iw_c_leadsTo9 : ∀ w ∈ wsP_c_leadsTo9, w ∈ lw_tbl := by unfold wsP_c_leadsTo9; exact iw_cons (List.mem_of_getElem? (i := 1441) (by decide +kernel)) (iw_app (iw_app (gx_pos [971, 1435, 1436, 99, 1020, 978] (by decide +kernel)) inX9) (iw_app iw_e_isPut9 iw_nil))
set_option maxRecDepth 20000 in
theorem iw_x_fenced9 : ∀ w ∈ wsP_x_fenced9, w ∈ lw_tbl := by unfold wsP_x_fenced9; exact iw_cons (List.mem_of_getElem? (i := 1434) (by decide +kernel)) (iw_app (iw_app (gx_pos [969, 1020, 970, 1438, 1440, 89, 99, 1435, 1436, 99, 1242, 1244, 59, 971, 972, 973, 974, 976] (by decide +kernel)) inX9) (iw_app iw_c_leadsTo9 (iw_app iw_e_isPut9 (iw_app iw_c_copyIns9 iw_nil))))
set_option maxRecDepth 20000 in
theorem iw_x_cures9 : ∀ w ∈ wsP_x_cures9, w ∈ lw_tbl := by unfold wsP_x_cures9; exact iw_cons (List.mem_of_getElem? (i := 1430) (by decide +kernel)) (iw_app (iw_app (gx_pos [1431, 1433, 88, 99, 1337, 1339, 72, 987, 990, 989, 1370, 1372, 79] (by decide +kernel)) inX9) (iw_app iw_x_fenced9 (iw_app iw_c_explore9 (iw_app iw_c_compare9 iw_nil))))
set_option maxRecDepth 20000 in
theorem iw_x_cure9 : ∀ w ∈ wsP_x_cure9, w ∈ lw_tbl := by unfold wsP_x_cure9; exact iw_cons (List.mem_of_getElem? (i := 1422) (by decide +kernel)) (iw_app (iw_app (gx_pos [980, 1333, 1335, 71, 99, 1423, 1425, 86, 1427, 1429, 87, 1019, 1016, 1017, 1018] (by decide +kernel)) inX9) (iw_app iw_c_explored9 (iw_app iw_c_findSpots9 (iw_app iw_x_cures9 iw_nil))))
set_option maxRecDepth 20000 in
theorem iw_c_cured9 : ∀ w ∈ wsP_c_cured9, w ∈ lw_tbl := by unfold wsP_c_cured9; exact iw_cons (List.mem_of_getElem? (i := 1445) (by decide +kernel)) (iw_app (iw_app (gx_pos [980, 1016, 1017] (by decide +kernel)) inX9) iw_nil)
set_option maxRecDepth 20000 in
theorem iw_c_count9 : ∀ w ∈ wsP_c_count9, w ∈ lw_tbl := by unfold wsP_c_count9; exact iw_cons (List.mem_of_getElem? (i := 1449) (by decide +kernel)) (iw_app (iw_app (gx_pos [980, 1423, 1425, 86, 99, 1019, 969, 970, 1333, 1335, 71, 986, 990, 995, 994, 992, 1358, 1360, 76, 997] (by decide +kernel)) inX9) (iw_app iw_c_findSpots9 (iw_app iw_c_explored9 (iw_app iw_c_isEnd9 iw_nil))))
set_option maxRecDepth 20000 in
theorem iw_c_X8_init : ∀ w ∈ wsP_c_X8_init, w ∈ lw_tbl := by unfold wsP_c_X8_init; exact iw_cons (List.mem_of_getElem? (i := 113) (by decide +kernel)) (iw_app (iw_app (iw_app (iw_app (iw_app (iw_app (iw_app (iw_app (gx_pos [114, 115, 116, 154, 317, 117, 118, 92, 122, 123, 124, 93, 128, 155, 134, 139, 142, 127, 126, 156, 158, 162, 163, 164, 165, 121, 120, 319, 320, 195, 322, 197, 198, 94, 202, 203, 204, 95, 208, 209, 207, 206, 215, 222, 201, 200, 323, 234, 235, 96, 239, 248, 238, 237, 325, 326, 260, 261, 97, 265, 274, 264, 263, 327, 290, 291, 98, 295, 296, 298, 300, 301, 303, 294, 293, 328] (by decide +kernel)) inX8) inX6) inX4) inX3) inX7) inX2) inX5) inX0)
set_option maxRecDepth 20000 in
theorem iw_c_X9_init : ∀ w ∈ wsP_c_X9_init, w ∈ lw_tbl := by unfold wsP_c_X9_init; exact iw_cons (List.mem_of_getElem? (i := 966) (by decide +kernel)) (iw_app (gx_pos [967, 115, 116, 155, 969, 970, 971, 972, 973, 974, 975, 976, 977, 978, 979, 968, 981, 982, 983, 984, 985, 986, 1126, 987, 988, 989, 990, 991, 992, 993, 995, 154, 996, 999, 1009, 1010, 1014, 1016, 1017, 1018, 1020] (by decide +kernel)) inX9)
