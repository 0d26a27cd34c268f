set_option maxRecDepth 20000 in
theorem iw_x_text9 : ∀ w ∈ wsP_x_text9, w ∈ lw_tbl := by unfold wsP_x_text9; exact iw_cons (List.mem_of_getElem? (i := 1162) (by decide +kernel)) (iw_app (iw_app (gx_pos [1163, 1164, 1166, 44, 99, 1197, 969, 1198, 1200, 52, 1000, 1001, 1172, 1174, 46, 1008, 1168, 1170, 45, 1176, 1178, 47, 1006, 1188, 1190, 50, 1192, 1194, 51, 979, 1007, 1184, 1186, 49] (by decide +kernel)) inX9) (iw_app iw_x_isWord9 (iw_app iw_x_core9 (iw_app iw_c_stop9 (iw_app iw_x_pass9 (iw_app iw_x_cell9 (iw_app iw_x_sign9 (iw_app iw_x_integer9 (iw_app iw_x_tell9 iw_nil)))))))))
set_option maxRecDepth 20000 in
theorem iw_c_copyIns9 : ∀ w ∈ wsP_c_copyIns9, w ∈ lw_tbl := by unfold wsP_c_copyIns9; exact iw_cons (List.mem_of_getElem? (i := 1245) (by decide +kernel)) (iw_app (iw_app (gx_pos [971, 972, 973, 974, 975, 976, 977, 978] (by decide +kernel)) inX9) iw_nil)
set_option maxRecDepth 20000 in
theorem iw_c_copyProgram9 : ∀ w ∈ wsP_c_copyProgram9, w ∈ lw_tbl := by unfold wsP_c_copyProgram9; exact iw_cons (List.mem_of_getElem? (i := 1241) (by decide +kernel)) (iw_app (iw_app (gx_pos [969, 970, 1242, 1244, 59, 99] (by decide +kernel)) inX9) (iw_app iw_c_copyIns9 iw_nil))
set_option maxRecDepth 20000 in
theorem iw_y_read9 : ∀ w ∈ wsP_y_read9, w ∈ lw_tbl := by unfold wsP_y_read9; exact iw_cons (List.mem_of_getElem? (i := 1142) (by decide +kernel)) (iw_app (iw_app (gx_pos [998, 999, 1005, 1002, 1004, 1143, 1145, 39, 99, 969, 1159, 1161, 43, 997, 1238, 1240, 58, 980, 995, 994, 1010, 1016, 988, 979] (by decide +kernel)) inX9) (iw_app iw_x_token9 (iw_app iw_x_text9 (iw_app iw_c_copyProgram9 iw_nil))))
set_option maxRecDepth 20000 in
theorem iw_x_place9 : ∀ w ∈ wsP_x_place9, w ∈ lw_tbl := by unfold wsP_x_place9; exact iw_cons (List.mem_of_getElem? (i := 1249) (by decide +kernel)) (iw_app (iw_app (gx_pos [999] (by decide +kernel)) inX9) iw_nil)
set_option maxRecDepth 20000 in
theorem iw_x_ins9 : ∀ w ∈ wsP_x_ins9, w ∈ lw_tbl := by unfold wsP_x_ins9; exact iw_cons (List.mem_of_getElem? (i := 1253) (by decide +kernel)) (iw_app (iw_app (gx_pos [980, 969, 970, 971, 972, 973, 974, 975, 976, 977, 978] (by decide +kernel)) inX9) iw_nil)
set_option maxRecDepth 20000 in
theorem iw_x_first9 : ∀ w ∈ wsP_x_first9, w ∈ lw_tbl := by unfold wsP_x_first9; exact iw_cons (List.mem_of_getElem? (i := 1261) (by decide +kernel)) (iw_app (iw_app (gx_pos [991, 979] (by decide +kernel)) inX9) iw_nil)
set_option maxRecDepth 20000 in
theorem iw_c_keepMachine9 : ∀ w ∈ wsP_c_keepMachine9, w ∈ lw_tbl := by unfold wsP_c_keepMachine9; exact iw_cons (List.mem_of_getElem? (i := 1265) (by decide +kernel)) (iw_app (iw_app (gx_pos [992, 991] (by decide +kernel)) inX9) iw_nil)
set_option maxRecDepth 20000 in
theorem iw_y_begin9 : ∀ w ∈ wsP_y_begin9, w ∈ lw_tbl := by unfold wsP_y_begin9; exact iw_cons (List.mem_of_getElem? (i := 1257) (by decide +kernel)) (iw_app (iw_app (gx_pos [980, 1258, 1260, 60, 99, 1262, 1264, 61, 995, 994] (by decide +kernel)) inX9) (iw_app iw_x_first9 (iw_app iw_c_keepMachine9 iw_nil)))
set_option maxRecDepth 20000 in
theorem iw_c_step9n : ∀ w ∈ wsP_c_step9n, w ∈ lw_tbl := by unfold wsP_c_step9n; exact iw_cons (List.mem_of_getElem? (i := 1269) (by decide +kernel)) (iw_app (iw_app (gx_pos [995] (by decide +kernel)) inX9) iw_nil)
set_option maxRecDepth 20000 in
theorem iw_c_takeMachine9 : ∀ w ∈ wsP_c_takeMachine9, w ∈ lw_tbl := by unfold wsP_c_takeMachine9; exact iw_cons (List.mem_of_getElem? (i := 1273) (by decide +kernel)) (iw_app (iw_app (gx_pos [991, 992] (by decide +kernel)) inX9) iw_nil)
set_option maxRecDepth 20000 in
theorem iw_c_rowAt9 : ∀ w ∈ wsP_c_rowAt9, w ∈ lw_tbl := by unfold wsP_c_rowAt9; exact iw_cons (List.mem_of_getElem? (i := 1280) (by decide +kernel)) (iw_app iw_nil iw_nil)
set_option maxRecDepth 20000 in
theorem iw_x_can9 : ∀ w ∈ wsP_x_can9, w ∈ lw_tbl := by unfold wsP_x_can9; exact iw_cons (List.mem_of_getElem? (i := 1277) (by decide +kernel)) (iw_app (iw_app (gx_pos [969, 991, 970, 971, 1278, 1279, 99] (by decide +kernel)) inX9) (iw_app iw_c_rowAt9 iw_nil))
set_option maxRecDepth 20000 in
theorem iw_x_goes9 : ∀ w ∈ wsP_x_goes9, w ∈ lw_tbl := by unfold wsP_x_goes9; exact iw_cons (List.mem_of_getElem? (i := 1288) (by decide +kernel)) (iw_app (iw_app (gx_pos [1278, 1279, 99, 991] (by decide +kernel)) inX9) (iw_app iw_c_rowAt9 iw_nil))
set_option maxRecDepth 20000 in
theorem iw_x_doesG9 : ∀ w ∈ wsP_x_doesG9, w ∈ lw_tbl := by unfold wsP_x_doesG9; exact iw_cons (List.mem_of_getElem? (i := 1284) (by decide +kernel)) (iw_app (gx_pos [1285, 1287, 65, 99] (by decide +kernel)) (iw_app iw_x_goes9 iw_nil))
set_option maxRecDepth 20000 in
theorem iw_x_taken9 : ∀ w ∈ wsP_x_taken9, w ∈ lw_tbl := by unfold wsP_x_taken9; exact iw_cons (List.mem_of_getElem? (i := 1292) (by decide +kernel)) (iw_app (iw_app (gx_pos [991] (by decide +kernel)) inX9) iw_nil)
set_option maxRecDepth 20000 in
theorem iw_x_loaded9 : ∀ w ∈ wsP_x_loaded9, w ∈ lw_tbl := by unfold wsP_x_loaded9; exact iw_cons (List.mem_of_getElem? (i := 1296) (by decide +kernel)) (iw_app (iw_app (gx_pos [1278, 1279, 99, 991] (by decide +kernel)) inX9) (iw_app iw_c_rowAt9 iw_nil))
set_option maxRecDepth 20000 in
theorem iw_x_put9 : ∀ w ∈ wsP_x_put9, w ∈ lw_tbl := by unfold wsP_x_put9; exact iw_cons (List.mem_of_getElem? (i := 1300) (by decide +kernel)) (iw_app (iw_app (gx_pos [1278, 1279, 99, 991] (by decide +kernel)) inX9) (iw_app iw_c_rowAt9 iw_nil))
set_option maxRecDepth 20000 in
theorem iw_x_locked9 : ∀ w ∈ wsP_x_locked9, w ∈ lw_tbl := by unfold wsP_x_locked9; exact iw_cons (List.mem_of_getElem? (i := 1304) (by decide +kernel)) (iw_app (iw_app (gx_pos [991] (by decide +kernel)) inX9) iw_nil)
set_option maxRecDepth 20000 in
theorem iw_x_doesK9 : ∀ w ∈ wsP_x_doesK9, w ∈ lw_tbl := by unfold wsP_x_doesK9; exact iw_cons (List.mem_of_getElem? (i := 1284) (by decide +kernel)) (iw_app (iw_app (gx_pos [991, 973, 972, 974, 975, 1289, 1291, 66, 99, 976, 977, 971, 1293, 1295, 67, 1297, 1299, 68, 1301, 1303, 69, 978] (by decide +kernel)) inX9) (iw_app iw_x_taken9 (iw_app iw_x_loaded9 (iw_app iw_x_put9 (iw_app iw_x_locked9 iw_nil)))))
set_option maxRecDepth 20000 in
theorem iw_x_step9 : ∀ w ∈ wsP_x_step9, w ∈ lw_tbl := by unfold wsP_x_step9; exact iw_cons (List.mem_of_getElem? (i := 1269) (by decide +kernel)) (iw_app (iw_app (gx_pos [995, 1270, 1272, 62, 99, 1274, 1276, 63, 994, 1281, 1283, 64, 1262, 1264, 61, 993, 992] (by decide +kernel)) inX9) (iw_app iw_c_takeMachine9 (iw_app iw_x_can9 (iw_app iw_x_doesG9 (iw_app iw_c_keepMachine9 (iw_app iw_x_doesK9 iw_nil))))))
set_option maxRecDepth 20000 in
theorem iw_c_undo9n : ∀ w ∈ wsP_c_undo9n, w ∈ lw_tbl := by unfold wsP_c_undo9n; exact iw_cons (List.mem_of_getElem? (i := 1308) (by decide +kernel)) (iw_app (iw_app (gx_pos [995] (by decide +kernel)) inX9) iw_nil)
set_option maxRecDepth 20000 in
theorem iw_x_undo9 : ∀ w ∈ wsP_x_undo9, w ∈ lw_tbl := by unfold wsP_x_undo9; exact iw_cons (List.mem_of_getElem? (i := 1308) (by decide +kernel)) (iw_app (iw_app (gx_pos [995, 994, 992, 993] (by decide +kernel)) inX9) iw_nil)
set_option maxRecDepth 20000 in
theorem iw_x_isCore9 : ∀ w ∈ wsP_x_isCore9, w ∈ lw_tbl := by unfold wsP_x_isCore9; exact iw_cons (List.mem_of_getElem? (i := 1316) (by decide +kernel)) (iw_app (iw_app (gx_pos [995, 969] (by decide +kernel)) inX9) iw_nil)
set_option maxRecDepth 20000 in
theorem iw_x_registerQ9 : ∀ w ∈ wsP_x_registerQ9, w ∈ lw_tbl := by unfold wsP_x_registerQ9; exact iw_cons (List.mem_of_getElem? (i := 1312) (by decide +kernel)) (iw_app (iw_app (gx_pos [1313, 1315, 70, 99, 992] (by decide +kernel)) inX9) (iw_app iw_x_isCore9 iw_nil))
set_option maxRecDepth 20000 in
theorem iw_x_memory9 : ∀ w ∈ wsP_x_memory9, w ∈ lw_tbl := by unfold wsP_x_memory9; exact iw_cons (List.mem_of_getElem? (i := 1320) (by decide +kernel)) (iw_app (iw_app (gx_pos [995, 992] (by decide +kernel)) inX9) iw_nil)
set_option maxRecDepth 20000 in
theorem iw_x_next9 : ∀ w ∈ wsP_x_next9, w ∈ lw_tbl := by unfold wsP_x_next9; exact iw_cons (List.mem_of_getElem? (i := 1324) (by decide +kernel)) (iw_app (iw_app (gx_pos [1313, 1315, 70, 99, 992] (by decide +kernel)) inX9) (iw_app iw_x_isCore9 iw_nil))
set_option maxRecDepth 20000 in
theorem iw_x_store9 : ∀ w ∈ wsP_x_store9, w ∈ lw_tbl := by unfold wsP_x_store9; exact iw_cons (List.mem_of_getElem? (i := 1328) (by decide +kernel)) (iw_app (iw_app (gx_pos [1313, 1315, 70, 99, 992, 1278, 1279, 99] (by decide +kernel)) inX9) (iw_app iw_x_isCore9 (iw_app iw_c_rowAt9 iw_nil)))
set_option maxRecDepth 20000 in
theorem iw_c_first9 : ∀ w ∈ wsP_c_first9, w ∈ lw_tbl := by unfold wsP_c_first9; exact iw_cons (List.mem_of_getElem? (i := 1261) (by decide +kernel)) (iw_app (iw_app (gx_pos [991, 979] (by decide +kernel)) inX9) iw_nil)
set_option maxRecDepth 20000 in
theorem iw_c_sum9 : ∀ w ∈ wsP_c_sum9, w ∈ lw_tbl := by unfold wsP_c_sum9; exact iw_cons (List.mem_of_getElem? (i := 1347) (by decide +kernel)) (iw_app (gx_pos [1348, 1349] (by decide +kernel)) iw_nil)
set_option maxRecDepth 20000 in
theorem iw_c_isNow9 : ∀ w ∈ wsP_c_isNow9, w ∈ lw_tbl := by unfold wsP_c_isNow9; exact iw_cons (List.mem_of_getElem? (i := 1353) (by decide +kernel)) (iw_app (iw_app (gx_pos [981, 991] (by decide +kernel)) inX9) iw_nil)
set_option maxRecDepth 20000 in
theorem iw_c_comes9 : ∀ w ∈ wsP_c_comes9, w ∈ lw_tbl := by unfold wsP_c_comes9; exact iw_cons (List.mem_of_getElem? (i := 1344) (by decide +kernel)) (iw_app (iw_app (gx_pos [991, 1345, 1346, 99, 985, 986, 982, 983, 984, 981, 1350, 1352, 74, 99] (by decide +kernel)) inX9) (iw_app iw_c_sum9 (iw_app iw_c_isNow9 iw_nil)))
set_option maxRecDepth 20000 in
theorem iw_c_told9 : ∀ w ∈ wsP_c_told9, w ∈ lw_tbl := by unfold wsP_c_told9; exact iw_cons (List.mem_of_getElem? (i := 1377) (by decide +kernel)) (iw_app (iw_app (gx_pos [981] (by decide +kernel)) inX9) iw_nil)
set_option maxRecDepth 20000 in
theorem iw_c_compare9 : ∀ w ∈ wsP_c_compare9, w ∈ lw_tbl := by unfold wsP_c_compare9; exact iw_cons (List.mem_of_getElem? (i := 1373) (by decide +kernel)) (iw_app (gx_pos [1374, 1376, 80, 99] (by decide +kernel)) (iw_app iw_c_told9 iw_nil))
set_option maxRecDepth 20000 in
theorem iw_c_sink9 : ∀ w ∈ wsP_c_sink9, w ∈ lw_tbl := by unfold wsP_c_sink9; exact iw_cons (List.mem_of_getElem? (i := 1369) (by decide +kernel)) (iw_app (iw_app (gx_pos [989, 1370, 1372, 79, 99] (by decide +kernel)) inX9) (iw_app iw_c_compare9 iw_nil))
set_option maxRecDepth 20000 in
theorem iw_c_sortEnds9 : ∀ w ∈ wsP_c_sortEnds9, w ∈ lw_tbl := by unfold wsP_c_sortEnds9; exact iw_cons (List.mem_of_getElem? (i := 1365) (by decide +kernel)) (iw_app (iw_app (gx_pos [990, 989, 1366, 1368, 78, 99] (by decide +kernel)) inX9) (iw_app iw_c_sink9 iw_nil))
set_option maxRecDepth 20000 in
theorem iw_c_isEnd9 : ∀ w ∈ wsP_c_isEnd9, w ∈ lw_tbl := by unfold wsP_c_isEnd9; exact iw_cons (List.mem_of_getElem? (i := 1361) (by decide +kernel)) (iw_app (iw_app (gx_pos [969, 970, 1278, 1279, 99] (by decide +kernel)) inX9) (iw_app iw_c_rowAt9 iw_nil))
set_option maxRecDepth 20000 in
theorem iw_c_at9 : ∀ w ∈ wsP_c_at9, w ∈ lw_tbl := by unfold wsP_c_at9; exact iw_cons (List.mem_of_getElem? (i := 1357) (by decide +kernel)) (iw_app (iw_app (gx_pos [991, 981] (by decide +kernel)) inX9) iw_nil)
set_option maxRecDepth 20000 in
theorem iw_c_can9 : ∀ w ∈ wsP_c_can9, w ∈ lw_tbl := by unfold wsP_c_can9; exact iw_cons (List.mem_of_getElem? (i := 1277) (by decide +kernel)) (iw_app (iw_app (gx_pos [969, 991, 970, 971, 1278, 1279, 99] (by decide +kernel)) inX9) (iw_app iw_c_rowAt9 iw_nil))
set_option maxRecDepth 20000 in
theorem iw_c_goes9 : ∀ w ∈ wsP_c_goes9, w ∈ lw_tbl := by unfold wsP_c_goes9; exact iw_cons (List.mem_of_getElem? (i := 1288) (by decide +kernel)) (iw_app (iw_app (gx_pos [1278, 1279, 99, 991] (by decide +kernel)) inX9) (iw_app iw_c_rowAt9 iw_nil))
set_option maxRecDepth 20000 in
theorem iw_c_doesG9 : ∀ w ∈ wsP_c_doesG9, w ∈ lw_tbl := by unfold wsP_c_doesG9; exact iw_cons (List.mem_of_getElem? (i := 1284) (by decide +kernel)) (iw_app (gx_pos [1285, 1287, 65, 99] (by decide +kernel)) (iw_app iw_c_goes9 iw_nil))
set_option maxRecDepth 20000 in
theorem iw_c_taken9 : ∀ w ∈ wsP_c_taken9, w ∈ lw_tbl := by unfold wsP_c_taken9; exact iw_cons (List.mem_of_getElem? (i := 1292) (by decide +kernel)) (iw_app (iw_app (gx_pos [991] (by decide +kernel)) inX9) iw_nil)
set_option maxRecDepth 20000 in
theorem iw_c_loaded9 : ∀ w ∈ wsP_c_loaded9, w ∈ lw_tbl := by unfold wsP_c_loaded9; exact iw_cons (List.mem_of_getElem? (i := 1296) (by decide +kernel)) (iw_app (iw_app (gx_pos [1278, 1279, 99, 991] (by decide +kernel)) inX9) (iw_app iw_c_rowAt9 iw_nil))
set_option maxRecDepth 20000 in
theorem iw_c_put9 : ∀ w ∈ wsP_c_put9, w ∈ lw_tbl := by unfold wsP_c_put9; exact iw_cons (List.mem_of_getElem? (i := 1300) (by decide +kernel)) (iw_app (iw_app (gx_pos [1278, 1279, 99, 991] (by decide +kernel)) inX9) (iw_app iw_c_rowAt9 iw_nil))
set_option maxRecDepth 20000 in
theorem iw_c_locked9 : ∀ w ∈ wsP_c_locked9, w ∈ lw_tbl := by unfold wsP_c_locked9; exact iw_cons (List.mem_of_getElem? (i := 1304) (by decide +kernel)) (iw_app (iw_app (gx_pos [991] (by decide +kernel)) inX9) iw_nil)
set_option maxRecDepth 20000 in
theorem iw_c_doesK9 : ∀ w ∈ wsP_c_doesK9, w ∈ lw_tbl := by unfold wsP_c_doesK9; exact iw_cons (List.mem_of_getElem? (i := 1284) (by decide +kernel)) (iw_app (iw_app (gx_pos [991, 973, 972, 974, 975, 1289, 1291, 66, 99, 976, 977, 971, 1293, 1295, 67, 1297, 1299, 68, 1301, 1303, 69, 978] (by decide +kernel)) inX9) (iw_app iw_c_taken9 (iw_app iw_c_loaded9 (iw_app iw_c_put9 (iw_app iw_c_locked9 iw_nil)))))
set_option maxRecDepth 20000 in
theorem iw_c_explore9 : ∀ w ∈ wsP_c_explore9, w ∈ lw_tbl := by unfold wsP_c_explore9; exact iw_cons (List.mem_of_getElem? (i := 1340) (by decide +kernel)) (iw_app (iw_app (gx_pos [988, 987, 986, 990, 1258, 1260, 60, 99, 1341, 1343, 73, 1362, 1364, 77, 981, 1358, 1360, 76, 989, 1354, 1356, 75, 1274, 1276, 63, 1281, 1283, 64, 985] (by decide +kernel)) inX9) (iw_app iw_c_first9 (iw_app iw_c_comes9 (iw_app iw_c_sortEnds9 (iw_app iw_c_isEnd9 (iw_app iw_c_at9 (iw_app iw_c_can9 (iw_app iw_c_doesG9 (iw_app iw_c_doesK9 iw_nil)))))))))
set_option maxRecDepth 20000 in
theorem iw_c_explored9 : ∀ w ∈ wsP_c_explored9, w ∈ lw_tbl := by unfold wsP_c_explored9; exact iw_cons (List.mem_of_getElem? (i := 1336) (by decide +kernel)) (iw_app (iw_app (gx_pos [988, 987, 1337, 1339, 72, 99] (by decide +kernel)) inX9) (iw_app iw_c_explore9 iw_nil))
set_option maxRecDepth 20000 in
theorem iw_c_outcomes9 : ∀ w ∈ wsP_c_outcomes9, w ∈ lw_tbl := by unfold wsP_c_outcomes9; exact iw_cons (List.mem_of_getElem? (i := 1332) (by decide +kernel)) (iw_app (iw_app (gx_pos [980, 1333, 1335, 71, 99, 990] (by decide +kernel)) inX9) (iw_app iw_c_explored9 iw_nil))
set_option maxRecDepth 20000 in
theorem iw_c_isOutcome9 : ∀ w ∈ wsP_c_isOutcome9, w ∈ lw_tbl := by unfold wsP_c_isOutcome9; exact iw_cons (List.mem_of_getElem? (i := 1385) (by decide +kernel)) (iw_app (iw_app (gx_pos [980, 1333, 1335, 71, 99, 990] (by decide +kernel)) inX9) (iw_app iw_c_explored9 iw_nil))
set_option maxRecDepth 20000 in
theorem iw_c_outcome9 : ∀ w ∈ wsP_c_outcome9, w ∈ lw_tbl := by unfold wsP_c_outcome9; exact iw_cons (List.mem_of_getElem? (i := 1381) (by decide +kernel)) (iw_app (iw_app (gx_pos [1382, 1384, 81, 99, 989, 1374, 1376, 80] (by decide +kernel)) inX9) (iw_app iw_c_isOutcome9 (iw_app iw_c_told9 iw_nil)))
set_option maxRecDepth 20000 in
theorem iw_c_stepOf9 : ∀ w ∈ wsP_c_stepOf9, w ∈ lw_tbl := by unfold wsP_c_stepOf9; exact iw_cons (List.mem_of_getElem? (i := 1393) (by decide +kernel)) (iw_app (iw_app (gx_pos [982, 983] (by decide +kernel)) inX9) iw_nil)
set_option maxRecDepth 20000 in
theorem iw_c_schedule9 : ∀ w ∈ wsP_c_schedule9, w ∈ lw_tbl := by unfold wsP_c_schedule9; exact iw_cons (List.mem_of_getElem? (i := 1389) (by decide +kernel)) (iw_app (iw_app (gx_pos [1382, 1384, 81, 99, 989, 1390, 1392, 82] (by decide +kernel)) inX9) (iw_app iw_c_isOutcome9 (iw_app iw_c_stepOf9 iw_nil)))
set_option maxRecDepth 20000 in
theorem iw_c_isWithout9 : ∀ w ∈ wsP_c_isWithout9, w ∈ lw_tbl := by unfold wsP_c_isWithout9; exact iw_cons (List.mem_of_getElem? (i := 1401) (by decide +kernel)) (iw_app (iw_app (gx_pos [990, 989, 1370, 1372, 79, 99] (by decide +kernel)) inX9) (iw_app iw_c_compare9 iw_nil))
set_option maxRecDepth 20000 in
theorem iw_c_more9 : ∀ w ∈ wsP_c_more9, w ∈ lw_tbl := by unfold wsP_c_more9; exact iw_cons (List.mem_of_getElem? (i := 1397) (by decide +kernel)) (iw_app (iw_app (gx_pos [980, 1333, 1335, 71, 99, 990, 1398, 1400, 83] (by decide +kernel)) inX9) (iw_app iw_c_explored9 (iw_app iw_c_isWithout9 iw_nil)))
set_option maxRecDepth 20000 in
theorem iw_c_nextOf9 : ∀ w ∈ wsP_c_nextOf9, w ∈ lw_tbl := by unfold wsP_c_nextOf9; exact iw_cons (List.mem_of_getElem? (i := 1413) (by decide +kernel)) (iw_app (iw_app (gx_pos [981, 969, 970] (by decide +kernel)) inX9) iw_nil)
set_option maxRecDepth 20000 in
theorem iw_c_isRace9 : ∀ w ∈ wsP_c_isRace9, w ∈ lw_tbl := by unfold wsP_c_isRace9; exact iw_cons (List.mem_of_getElem? (i := 1409) (by decide +kernel)) (iw_app (iw_app (gx_pos [1410, 1412, 85, 99, 971, 972, 981, 1011, 1012, 1013] (by decide +kernel)) inX9) (iw_app iw_c_nextOf9 iw_nil))
set_option maxRecDepth 20000 in
theorem iw_c_race9 : ∀ w ∈ wsP_c_race9, w ∈ lw_tbl := by unfold wsP_c_race9; exact iw_cons (List.mem_of_getElem? (i := 1405) (by decide +kernel)) (iw_app (iw_app (gx_pos [980, 1010, 1337, 1339, 72, 99, 987, 986, 1406, 1408, 84, 1015, 1390, 1392, 82, 1014] (by decide +kernel)) inX9) (iw_app iw_c_explore9 (iw_app iw_c_isRace9 (iw_app iw_c_stepOf9 iw_nil))))
set_option maxRecDepth 20000 in
theorem iw_c_racer9 : ∀ w ∈ wsP_c_racer9, w ∈ lw_tbl := by unfold wsP_c_racer9; exact iw_cons (List.mem_of_getElem? (i := 1417) (by decide +kernel)) (iw_app (iw_app (gx_pos [980, 1418, 1403, 1404, 99, 1015, 1014, 1013, 1012, 1011] (by decide +kernel)) inX9) (iw_app iw_c_race9 iw_nil))
set_option maxRecDepth 20000 in
theorem iw_c_findSpots9 : ∀ w ∈ wsP_c_findSpots9, w ∈ lw_tbl := by unfold wsP_c_findSpots9; exact iw_cons (List.mem_of_getElem? (i := 1426) (by decide +kernel)) (iw_app (iw_app (gx_pos [1019, 969, 970, 1018] (by decide +kernel)) inX9) iw_nil)
