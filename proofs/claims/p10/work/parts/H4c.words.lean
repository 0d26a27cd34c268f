set_option maxRecDepth 20000 in
theorem iw_c_moreN : ∀ w ∈ wsP_c_moreN, w ∈ lw_tbl := by unfold wsP_c_moreN; exact iw_cons (List.mem_of_getElem? (i := 830) (by decide +kernel)) (iw_app (iw_app (iw_app (gx_pos [321, 669, 671, 23, 91, 244, 831, 832, 833, 96] (by decide +kernel)) inX8) inX2) (iw_app iw_c_found1N (iw_app iw_c_found0E (iw_app iw_c_numberOther iw_nil))))
set_option maxRecDepth 20000 in
theorem iw_c_moreE : ∀ w ∈ wsP_c_moreE, w ∈ lw_tbl := by unfold wsP_c_moreE; exact iw_cons (List.mem_of_getElem? (i := 830) (by decide +kernel)) (iw_app (iw_app (iw_app (gx_pos [321, 669, 671, 23, 91, 244, 831, 832, 833, 96] (by decide +kernel)) inX8) inX2) (iw_app iw_c_found1E (iw_app iw_c_found0E (iw_app iw_c_numberOther iw_nil))))
set_option maxRecDepth 20000 in
theorem iw_c_loadedCell : ∀ w ∈ wsP_c_loadedCell, w ∈ lw_tbl := by unfold wsP_c_loadedCell; exact iw_cons (List.mem_of_getElem? (i := 863) (by decide +kernel)) (iw_app (iw_app (gx_pos [864, 588, 589, 95, 135, 865, 528, 529, 93] (by decide +kernel)) inX4) (iw_app iw_c_nextOf (iw_app iw_c_part iw_nil)))
set_option maxRecDepth 20000 in
theorem iw_c_storedTo : ∀ w ∈ wsP_c_storedTo, w ∈ lw_tbl := by unfold wsP_c_storedTo; exact iw_cons (List.mem_of_getElem? (i := 869) (by decide +kernel)) (iw_app (gx_pos [209] (by decide +kernel)) inX7)
set_option maxRecDepth 20000 in
theorem iw_c_isLocked : ∀ w ∈ wsP_c_isLocked, w ∈ lw_tbl := by unfold wsP_c_isLocked; exact iw_cons (List.mem_of_getElem? (i := 597) (by decide +kernel)) iw_nil
set_option maxRecDepth 20000 in
theorem iw_c_writes : ∀ w ∈ wsP_c_writes, w ∈ lw_tbl := by unfold wsP_c_writes; exact iw_cons (List.mem_of_getElem? (i := 872) (by decide +kernel)) (iw_app (iw_app (gx_pos [864, 588, 589, 95, 135, 865, 528, 529, 93, 873, 596, 95] (by decide +kernel)) inX4) (iw_app iw_c_nextOf (iw_app iw_c_part (iw_app iw_c_isLocked iw_nil))))
set_option maxRecDepth 20000 in
theorem iw_c_isRace : ∀ w ∈ wsP_c_isRace, w ∈ lw_tbl := by unfold wsP_c_isRace; exact iw_cons (List.mem_of_getElem? (i := 860) (by decide +kernel)) (iw_app (iw_app (iw_app (gx_pos [131, 861, 862, 97, 866, 867, 868, 95, 870, 871, 97, 270, 271, 272] (by decide +kernel)) inX4) inX5) (iw_app iw_c_loadedCell (iw_app iw_c_storedTo (iw_app iw_c_writes iw_nil))))
set_option maxRecDepth 20000 in
theorem iw_c_search : ∀ w ∈ wsP_c_search, w ∈ lw_tbl := by unfold wsP_c_search; exact iw_cons (List.mem_of_getElem? (i := 854) (by decide +kernel)) (iw_app (iw_app (iw_app (gx_pos [266, 268, 855, 724, 725, 106, 687, 856, 767, 768, 696, 857, 859, 34, 97, 874, 804, 805, 273, 693, 274, 875, 570, 569, 105] (by decide +kernel)) inX5) inX1) (iw_app iw_c_explore (iw_app iw_c_fetch (iw_app iw_c_isRace (iw_app iw_c_pathTo iw_nil)))))
set_option maxRecDepth 20000 in
theorem iw_c_findRaceN : ∀ w ∈ wsP_c_findRaceN, w ∈ lw_tbl := by unfold wsP_c_findRaceN; exact iw_cons (List.mem_of_getElem? (i := 850) (by decide +kernel)) (iw_app (iw_app (iw_app (gx_pos [327, 267, 322, 673, 675, 24, 91, 851, 852, 853, 97] (by decide +kernel)) inX8) inX5) (iw_app iw_c_atHandN (iw_app iw_c_search iw_nil)))
set_option maxRecDepth 20000 in
theorem iw_c_raceN : ∀ w ∈ wsP_c_raceN, w ∈ lw_tbl := by unfold wsP_c_raceN; exact iw_cons (List.mem_of_getElem? (i := 846) (by decide +kernel)) (iw_app (iw_app (iw_app (gx_pos [321, 847, 849, 33, 91, 327, 269] (by decide +kernel)) inX8) inX5) (iw_app iw_c_findRaceN iw_nil))
set_option maxRecDepth 20000 in
theorem iw_c_findRaceE : ∀ w ∈ wsP_c_findRaceE, w ∈ lw_tbl := by unfold wsP_c_findRaceE; exact iw_cons (List.mem_of_getElem? (i := 850) (by decide +kernel)) (iw_app (iw_app (iw_app (gx_pos [327, 267, 322, 673, 675, 24, 91, 851, 852, 853, 97] (by decide +kernel)) inX8) inX5) (iw_app iw_c_atHandE (iw_app iw_c_search iw_nil)))
set_option maxRecDepth 20000 in
theorem iw_c_raceE : ∀ w ∈ wsP_c_raceE, w ∈ lw_tbl := by unfold wsP_c_raceE; exact iw_cons (List.mem_of_getElem? (i := 846) (by decide +kernel)) (iw_app (iw_app (iw_app (gx_pos [321, 847, 849, 33, 91, 327, 269] (by decide +kernel)) inX8) inX5) (iw_app iw_c_findRaceE iw_nil))
set_option maxRecDepth 20000 in
theorem iw_c_tell : ∀ w ∈ wsP_c_tell, w ∈ lw_tbl := by unfold wsP_c_tell; exact iw_cons (List.mem_of_getElem? (i := 883) (by decide +kernel)) (iw_app (iw_app (gx_pos [268, 270, 271, 272, 273, 274] (by decide +kernel)) inX5) iw_nil)
set_option maxRecDepth 20000 in
theorem iw_c_racerN : ∀ w ∈ wsP_c_racerN, w ∈ lw_tbl := by unfold wsP_c_racerN; exact iw_cons (List.mem_of_getElem? (i := 879) (by decide +kernel)) (iw_app (iw_app (gx_pos [321, 847, 849, 33, 91, 327, 880, 881, 882, 97] (by decide +kernel)) inX8) (iw_app iw_c_findRaceN (iw_app iw_c_tell iw_nil)))
set_option maxRecDepth 20000 in
theorem iw_c_racerE : ∀ w ∈ wsP_c_racerE, w ∈ lw_tbl := by unfold wsP_c_racerE; exact iw_cons (List.mem_of_getElem? (i := 879) (by decide +kernel)) (iw_app (iw_app (gx_pos [321, 847, 849, 33, 91, 327, 880, 881, 882, 97] (by decide +kernel)) inX8) (iw_app iw_c_findRaceE (iw_app iw_c_tell iw_nil)))
set_option maxRecDepth 20000 in
theorem iw_c_placesInAll : ∀ w ∈ wsP_c_placesInAll, w ∈ lw_tbl := by unfold wsP_c_placesInAll; exact iw_cons (List.mem_of_getElem? (i := 899) (by decide +kernel)) (iw_app (gx_pos [129, 134, 900, 901, 107, 902] (by decide +kernel)) inX4)
set_option maxRecDepth 20000 in
theorem iw_c_hasRoom : ∀ w ∈ wsP_c_hasRoom, w ∈ lw_tbl := by unfold wsP_c_hasRoom; exact iw_cons (List.mem_of_getElem? (i := 916) (by decide +kernel)) (iw_app (gx_pos [134] (by decide +kernel)) inX4)
set_option maxRecDepth 20000 in
theorem iw_c_within : ∀ w ∈ wsP_c_within, w ∈ lw_tbl := by unfold wsP_c_within; exact iw_cons (List.mem_of_getElem? (i := 921) (by decide +kernel)) iw_nil
set_option maxRecDepth 20000 in
theorem iw_c_copyIns : ∀ w ∈ wsP_c_copyIns, w ∈ lw_tbl := by unfold wsP_c_copyIns; exact iw_cons (List.mem_of_getElem? (i := 925) (by decide +kernel)) (iw_app (gx_pos [490, 491, 93, 492, 142, 917, 487, 488, 134, 489, 912, 570, 569, 105] (by decide +kernel)) inX4)
set_option maxRecDepth 20000 in
theorem iw_c_becomeFenced : ∀ w ∈ wsP_c_becomeFenced, w ∈ lw_tbl := by unfold wsP_c_becomeFenced; exact iw_cons (List.mem_of_getElem? (i := 910) (by decide +kernel)) (iw_app (iw_app (gx_pos [911, 444, 445, 93, 129, 139, 912, 570, 569, 105, 134, 913, 914, 915, 918, 528, 529, 919, 920, 93, 922, 924, 36, 917, 487, 488] (by decide +kernel)) inX4) (iw_app iw_c_clear (iw_app iw_c_hasRoom (iw_app iw_c_part (iw_app iw_c_within (iw_app iw_c_copyIns (iw_app iw_c_addBlank iw_nil)))))))
set_option maxRecDepth 20000 in
theorem iw_c_fSame : ∀ w ∈ wsP_c_fSame, w ∈ lw_tbl := by unfold wsP_c_fSame; exact iw_cons (List.mem_of_getElem? (i := 930) (by decide +kernel)) (iw_app (iw_app (iw_app (gx_pos [689, 246, 839, 816, 817, 96, 691, 793, 794, 795, 106] (by decide +kernel)) inX1) inX2) (iw_app iw_c_findInt (iw_app iw_c_xInt iw_nil)))
set_option maxRecDepth 20000 in
theorem iw_c_look0 : ∀ w ∈ wsP_c_look0, w ∈ lw_tbl := by unfold wsP_c_look0; exact iw_cons (List.mem_of_getElem? (i := 895) (by decide +kernel)) (iw_app (iw_app (gx_pos [896, 897, 898, 93, 301, 298, 907, 908, 909, 926, 724, 725, 106, 927, 928, 929, 96] (by decide +kernel)) inX0) (iw_app iw_c_placesInAll (iw_app iw_c_becomeFenced (iw_app iw_c_explore (iw_app iw_c_fSame iw_nil)))))
set_option maxRecDepth 20000 in
theorem iw_c_placeOf : ∀ w ∈ wsP_c_placeOf, w ∈ lw_tbl := by unfold wsP_c_placeOf; exact iw_cons (List.mem_of_getElem? (i := 906) (by decide +kernel)) (iw_app (gx_pos [129, 134, 900, 901, 107, 902] (by decide +kernel)) inX4)
set_option maxRecDepth 20000 in
theorem iw_c_look1 : ∀ w ∈ wsP_c_look1, w ∈ lw_tbl := by unfold wsP_c_look1; exact iw_cons (List.mem_of_getElem? (i := 895) (by decide +kernel)) (iw_app (iw_app (gx_pos [896, 897, 898, 93, 301, 903, 904, 905, 298, 907, 908, 909, 926, 724, 725, 106, 927, 928, 929, 96] (by decide +kernel)) inX0) (iw_app iw_c_placesInAll (iw_app iw_c_placeOf (iw_app iw_c_becomeFenced (iw_app iw_c_explore (iw_app iw_c_fSame iw_nil))))))
set_option maxRecDepth 20000 in
theorem iw_c_look2 : ∀ w ∈ wsP_c_look2, w ∈ lw_tbl := by unfold wsP_c_look2; exact iw_cons (List.mem_of_getElem? (i := 895) (by decide +kernel)) (iw_app (iw_app (gx_pos [896, 897, 898, 93, 301, 903, 904, 905, 298, 907, 908, 909, 926, 724, 725, 106, 927, 928, 929, 96] (by decide +kernel)) inX0) (iw_app iw_c_placesInAll (iw_app iw_c_placeOf (iw_app iw_c_becomeFenced (iw_app iw_c_explore (iw_app iw_c_fSame iw_nil))))))
set_option maxRecDepth 20000 in
theorem iw_c_least : ∀ w ∈ wsP_c_least, w ∈ lw_tbl := by unfold wsP_c_least; exact iw_cons (List.mem_of_getElem? (i := 891) (by decide +kernel)) (iw_app (iw_app (iw_app (gx_pos [299, 300, 302, 301, 303, 931, 570, 569, 105, 243, 892, 894, 35, 98] (by decide +kernel)) inX0) inX2) (iw_app iw_c_look0 (iw_app iw_c_look1 (iw_app iw_c_look2 iw_nil))))
set_option maxRecDepth 20000 in
theorem iw_c_cureN : ∀ w ∈ wsP_c_cureN, w ∈ lw_tbl := by unfold wsP_c_cureN; exact iw_cons (List.mem_of_getElem? (i := 887) (by decide +kernel)) (iw_app (iw_app (gx_pos [321, 669, 671, 23, 91, 328, 322, 673, 675, 24, 888, 889, 890, 98] (by decide +kernel)) inX8) (iw_app iw_c_found0N (iw_app iw_c_atHandE (iw_app iw_c_least iw_nil))))
set_option maxRecDepth 20000 in
theorem iw_c_cureE : ∀ w ∈ wsP_c_cureE, w ∈ lw_tbl := by unfold wsP_c_cureE; exact iw_cons (List.mem_of_getElem? (i := 887) (by decide +kernel)) (iw_app (iw_app (gx_pos [321, 669, 671, 23, 91, 328, 322, 673, 675, 24, 888, 889, 890, 98] (by decide +kernel)) inX8) (iw_app iw_c_found0E (iw_app iw_c_atHandE (iw_app iw_c_least iw_nil))))
set_option maxRecDepth 20000 in
theorem iw_c_toldPlace : ∀ w ∈ wsP_c_toldPlace, w ∈ lw_tbl := by unfold wsP_c_toldPlace; exact iw_cons (List.mem_of_getElem? (i := 939) (by decide +kernel)) (iw_app (gx_pos [302, 303] (by decide +kernel)) inX0)
set_option maxRecDepth 20000 in
theorem iw_c_cured8 : ∀ w ∈ wsP_c_cured8, w ∈ lw_tbl := by unfold wsP_c_cured8; exact iw_cons (List.mem_of_getElem? (i := 935) (by decide +kernel)) (iw_app (iw_app (gx_pos [328, 936, 937, 938, 98] (by decide +kernel)) inX8) (iw_app iw_c_toldPlace iw_nil))
set_option maxRecDepth 20000 in
theorem iw_c_insInAll : ∀ w ∈ wsP_c_insInAll, w ∈ lw_tbl := by unfold wsP_c_insInAll; exact iw_cons (List.mem_of_getElem? (i := 951) (by decide +kernel)) (iw_app (gx_pos [129, 134] (by decide +kernel)) inX4)
set_option maxRecDepth 20000 in
theorem iw_c_statesOr : ∀ w ∈ wsP_c_statesOr, w ∈ lw_tbl := by unfold wsP_c_statesOr; exact iw_cons (List.mem_of_getElem? (i := 955) (by decide +kernel)) (iw_app (iw_app (gx_pos [242, 245] (by decide +kernel)) inX2) iw_nil)
set_option maxRecDepth 20000 in
theorem iw_c_sizeOr : ∀ w ∈ wsP_c_sizeOr, w ∈ lw_tbl := by unfold wsP_c_sizeOr; exact iw_cons (List.mem_of_getElem? (i := 959) (by decide +kernel)) (iw_app (iw_app (gx_pos [242, 246] (by decide +kernel)) inX2) iw_nil)
set_option maxRecDepth 20000 in
theorem iw_c_countOfProgramN : ∀ w ∈ wsP_c_countOfProgramN, w ∈ lw_tbl := by unfold wsP_c_countOfProgramN; exact iw_cons (List.mem_of_getElem? (i := 947) (by decide +kernel)) (iw_app (iw_app (iw_app (iw_app (gx_pos [322, 132, 948, 949, 950, 93, 669, 671, 23, 91, 952, 953, 954, 96, 956, 957, 958, 323, 218, 220, 216, 960, 771, 772, 95, 961, 897, 898] (by decide +kernel)) inX8) inX4) inX3) (iw_app iw_c_insInAll (iw_app iw_c_found1N (iw_app iw_c_statesOr (iw_app iw_c_found0N (iw_app iw_c_sizeOr (iw_app iw_c_hasEnded (iw_app iw_c_placesInAll iw_nil))))))))
set_option maxRecDepth 20000 in
theorem iw_c_countN : ∀ w ∈ wsP_c_countN, w ∈ lw_tbl := by unfold wsP_c_countN; exact iw_cons (List.mem_of_getElem? (i := 943) (by decide +kernel)) (iw_app (iw_app (gx_pos [321, 944, 946, 37, 91, 318] (by decide +kernel)) inX8) (iw_app iw_c_countOfProgramN iw_nil))
set_option maxRecDepth 20000 in
theorem iw_c_countOfProgramE : ∀ w ∈ wsP_c_countOfProgramE, w ∈ lw_tbl := by unfold wsP_c_countOfProgramE; exact iw_cons (List.mem_of_getElem? (i := 947) (by decide +kernel)) (iw_app (iw_app (iw_app (iw_app (gx_pos [322, 132, 948, 949, 950, 93, 669, 671, 23, 91, 952, 953, 954, 96, 956, 957, 958, 323, 218, 220, 216, 960, 771, 772, 95, 961, 897, 898] (by decide +kernel)) inX8) inX4) inX3) (iw_app iw_c_insInAll (iw_app iw_c_found1E (iw_app iw_c_statesOr (iw_app iw_c_found0E (iw_app iw_c_sizeOr (iw_app iw_c_hasEnded (iw_app iw_c_placesInAll iw_nil))))))))
set_option maxRecDepth 20000 in
theorem iw_c_countE : ∀ w ∈ wsP_c_countE, w ∈ lw_tbl := by unfold wsP_c_countE; exact iw_cons (List.mem_of_getElem? (i := 943) (by decide +kernel)) (iw_app (iw_app (gx_pos [321, 944, 946, 37, 91, 318] (by decide +kernel)) inX8) (iw_app iw_c_countOfProgramE iw_nil))
set_option maxRecDepth 20000 in
theorem iw_x_X9_byteRow : ∀ w ∈ wsP_x_X9_byteRow, w ∈ lw_tbl := by unfold wsP_x_X9_byteRow; exact iw_cons (List.mem_of_getElem? (i := 1134) (by decide +kernel)) (iw_app (iw_app (gx_pos [996, 997] (by decide +kernel)) inX9) iw_nil)
set_option maxRecDepth 20000 in
theorem iw_x_X9_feed : ∀ w ∈ wsP_x_X9_feed, w ∈ lw_tbl := by unfold wsP_x_X9_feed; exact iw_cons (List.mem_of_getElem? (i := 1130) (by decide +kernel)) (iw_app (iw_app (gx_pos [997, 1131, 1133, 38, 99] (by decide +kernel)) inX9) (iw_app iw_x_X9_byteRow iw_nil))
set_option maxRecDepth 20000 in
theorem iw_c_X9_back : ∀ w ∈ wsP_c_X9_back, w ∈ lw_tbl := by unfold wsP_c_X9_back; exact iw_cons (List.mem_of_getElem? (i := 1138) (by decide +kernel)) (iw_app (gx_pos [997] (by decide +kernel)) inX9)
set_option maxRecDepth 20000 in
theorem iw_c_seen9 : ∀ w ∈ wsP_c_seen9, w ∈ lw_tbl := by unfold wsP_c_seen9; exact iw_cons (List.mem_of_getElem? (i := 1150) (by decide +kernel)) (iw_app (iw_app (gx_pos [997, 996] (by decide +kernel)) inX9) iw_nil)
set_option maxRecDepth 20000 in
theorem iw_x_isLetter9 : ∀ w ∈ wsP_x_isLetter9, w ∈ lw_tbl := by unfold wsP_x_isLetter9; exact iw_cons (List.mem_of_getElem? (i := 1154) (by decide +kernel)) (iw_app (gx_pos [1147, 1149, 40, 99] (by decide +kernel)) (iw_app iw_c_seen9 iw_nil))
set_option maxRecDepth 20000 in
theorem iw_x_isDigit9 : ∀ w ∈ wsP_x_isDigit9, w ∈ lw_tbl := by unfold wsP_x_isDigit9; exact iw_cons (List.mem_of_getElem? (i := 1158) (by decide +kernel)) (iw_app (gx_pos [1147, 1149, 40, 99] (by decide +kernel)) (iw_app iw_c_seen9 iw_nil))
set_option maxRecDepth 20000 in
theorem iw_x_token9 : ∀ w ∈ wsP_x_token9, w ∈ lw_tbl := by unfold wsP_x_token9; exact iw_cons (List.mem_of_getElem? (i := 1146) (by decide +kernel)) (iw_app (iw_app (gx_pos [1002, 997, 1001, 1147, 1149, 40, 99, 1003, 1151, 1153, 41, 1155, 1157, 42, 1000, 996] (by decide +kernel)) inX9) (iw_app iw_c_seen9 (iw_app iw_x_isLetter9 (iw_app iw_x_isDigit9 iw_nil))))
set_option maxRecDepth 20000 in
theorem iw_x_isWord9 : ∀ w ∈ wsP_x_isWord9, w ∈ lw_tbl := by unfold wsP_x_isWord9; exact iw_cons (List.mem_of_getElem? (i := 1167) (by decide +kernel)) (iw_app (iw_app (gx_pos [1000, 1003] (by decide +kernel)) inX9) iw_nil)
set_option maxRecDepth 20000 in
theorem iw_c_stop9 : ∀ w ∈ wsP_c_stop9, w ∈ lw_tbl := by unfold wsP_c_stop9; exact iw_cons (List.mem_of_getElem? (i := 1175) (by decide +kernel)) (iw_app (iw_app (gx_pos [998, 999, 1005] (by decide +kernel)) inX9) iw_nil)
set_option maxRecDepth 20000 in
theorem iw_x_pass9 : ∀ w ∈ wsP_x_pass9, w ∈ lw_tbl := by unfold wsP_x_pass9; exact iw_cons (List.mem_of_getElem? (i := 1171) (by decide +kernel)) (iw_app (iw_app (gx_pos [1004, 1143, 1145, 39, 99, 1001, 1172, 1174, 46] (by decide +kernel)) inX9) (iw_app iw_x_token9 (iw_app iw_c_stop9 iw_nil)))
set_option maxRecDepth 20000 in
theorem iw_x_sign9 : ∀ w ∈ wsP_x_sign9, w ∈ lw_tbl := by unfold wsP_x_sign9; exact iw_cons (List.mem_of_getElem? (i := 1191) (by decide +kernel)) (iw_app (iw_app (gx_pos [1000, 1001, 1172, 1174, 46, 99, 1003, 1168, 1170, 45] (by decide +kernel)) inX9) (iw_app iw_c_stop9 (iw_app iw_x_pass9 iw_nil)))
set_option maxRecDepth 20000 in
theorem iw_x_words9 : ∀ w ∈ wsP_x_words9, w ∈ lw_tbl := by unfold wsP_x_words9; exact iw_cons (List.mem_of_getElem? (i := 1236) (by decide +kernel)) (iw_app (iw_app (gx_pos [1164, 1166, 44, 99, 1001, 1172, 1174, 46, 1168, 1170, 45] (by decide +kernel)) inX9) (iw_app iw_x_isWord9 (iw_app iw_c_stop9 (iw_app iw_x_pass9 iw_nil))))
set_option maxRecDepth 20000 in
theorem iw_x_tell9 : ∀ w ∈ wsP_x_tell9, w ∈ lw_tbl := by unfold wsP_x_tell9; exact iw_cons (List.mem_of_getElem? (i := 1187) (by decide +kernel)) (iw_app (iw_app (gx_pos [998, 999] (by decide +kernel)) inX9) iw_nil)
set_option maxRecDepth 20000 in
theorem iw_c_began9 : ∀ w ∈ wsP_c_began9, w ∈ lw_tbl := by unfold wsP_c_began9; exact iw_cons (List.mem_of_getElem? (i := 1204) (by decide +kernel)) (iw_app (gx_pos [1205, 1206, 1207, 1208, 1209, 1210, 1211, 1212, 1213] (by decide +kernel)) iw_nil)
set_option maxRecDepth 20000 in
theorem iw_x_isRegister9 : ∀ w ∈ wsP_x_isRegister9, w ∈ lw_tbl := by unfold wsP_x_isRegister9; exact iw_cons (List.mem_of_getElem? (i := 1225) (by decide +kernel)) (iw_app (iw_app (gx_pos [1000, 1003, 1226, 1227] (by decide +kernel)) inX9) iw_nil)
set_option maxRecDepth 20000 in
theorem iw_x_register9 : ∀ w ∈ wsP_x_register9, w ∈ lw_tbl := by unfold wsP_x_register9; exact iw_cons (List.mem_of_getElem? (i := 1231) (by decide +kernel)) (iw_app (iw_app (gx_pos [1222, 1224, 55, 99, 973, 1008, 1003, 1168, 1170, 45, 1001, 1172, 1174, 46] (by decide +kernel)) inX9) (iw_app iw_x_isRegister9 (iw_app iw_x_pass9 (iw_app iw_c_stop9 iw_nil))))
set_option maxRecDepth 20000 in
theorem iw_x_whole9 : ∀ w ∈ wsP_x_whole9, w ∈ lw_tbl := by unfold wsP_x_whole9; exact iw_cons (List.mem_of_getElem? (i := 1183) (by decide +kernel)) (iw_app (iw_app (gx_pos [1000, 1001, 1007, 1006, 1002, 1168, 1170, 45, 99, 996, 1172, 1174, 46] (by decide +kernel)) inX9) (iw_app iw_x_pass9 (iw_app iw_c_stop9 iw_nil)))
set_option maxRecDepth 20000 in
theorem iw_x_cell9 : ∀ w ∈ wsP_x_cell9, w ∈ lw_tbl := by unfold wsP_x_cell9; exact iw_cons (List.mem_of_getElem? (i := 1179) (by decide +kernel)) (iw_app (iw_app (gx_pos [1180, 1182, 48, 99, 1006, 972, 1008, 1007, 1184, 1186, 49] (by decide +kernel)) inX9) (iw_app iw_x_whole9 (iw_app iw_x_tell9 iw_nil)))
set_option maxRecDepth 20000 in
theorem iw_x_integer9 : ∀ w ∈ wsP_x_integer9, w ∈ lw_tbl := by unfold wsP_x_integer9; exact iw_cons (List.mem_of_getElem? (i := 1195) (by decide +kernel)) (iw_app (iw_app (gx_pos [1000, 1180, 1182, 48, 99, 1006, 1003, 1196, 1168, 1170, 45] (by decide +kernel)) inX9) (iw_app iw_x_whole9 (iw_app iw_x_pass9 iw_nil)))
set_option maxRecDepth 20000 in
theorem iw_x_value90 : ∀ w ∈ wsP_x_value90, w ∈ lw_tbl := by unfold wsP_x_value90; exact iw_cons (List.mem_of_getElem? (i := 1221) (by decide +kernel)) (iw_app (iw_app (gx_pos [1222, 1224, 55, 99, 1006, 1192, 1194, 51, 974, 1008, 975, 1003, 1168, 1170, 45] (by decide +kernel)) inX9) (iw_app iw_x_isRegister9 (iw_app iw_x_integer9 (iw_app iw_x_pass9 iw_nil))))
set_option maxRecDepth 20000 in
theorem iw_x_value91 : ∀ w ∈ wsP_x_value91, w ∈ lw_tbl := by unfold wsP_x_value91; exact iw_cons (List.mem_of_getElem? (i := 1221) (by decide +kernel)) (iw_app (iw_app (gx_pos [1222, 1224, 55, 99, 1006, 1192, 1194, 51, 976, 1008, 977, 1003, 1168, 1170, 45] (by decide +kernel)) inX9) (iw_app iw_x_isRegister9 (iw_app iw_x_integer9 (iw_app iw_x_pass9 iw_nil))))
set_option maxRecDepth 20000 in
theorem iw_x_instruction9 : ∀ w ∈ wsP_x_instruction9, w ∈ lw_tbl := by unfold wsP_x_instruction9; exact iw_cons (List.mem_of_getElem? (i := 1217) (by decide +kernel)) (iw_app (iw_app (gx_pos [971, 1008, 1228, 1230, 56, 99, 1176, 1178, 47, 1218, 1220, 54, 1232, 1233, 1235, 57, 1180, 1182, 48, 978, 1006, 1009, 1007] (by decide +kernel)) inX9) (iw_app iw_x_register9 (iw_app iw_x_cell9 (iw_app iw_x_value90 (iw_app iw_x_words9 (iw_app iw_x_whole9 (iw_app iw_x_value91 iw_nil)))))))
set_option maxRecDepth 20000 in
theorem iw_x_core9 : ∀ w ∈ wsP_x_core9, w ∈ lw_tbl := by unfold wsP_x_core9; exact iw_cons (List.mem_of_getElem? (i := 1201) (by decide +kernel)) (iw_app (iw_app (gx_pos [969, 1168, 1170, 45, 99, 1188, 1190, 50, 1000, 1237, 1233, 1235, 57, 970, 1009, 978, 1184, 1186, 49, 1003, 1202, 1203, 99, 1008, 971, 972, 973, 974, 975, 976, 977, 1214, 1216, 53, 1001, 1172, 1174, 46] (by decide +kernel)) inX9) (iw_app iw_x_pass9 (iw_app iw_x_sign9 (iw_app iw_x_words9 (iw_app iw_x_tell9 (iw_app iw_c_began9 (iw_app iw_x_instruction9 (iw_app iw_c_stop9 iw_nil))))))))
