set_option maxRecDepth 20000 in
theorem iw_e_letGo : ∀ w ∈ wsP_e_letGo, w ∈ lw_tbl := by unfold wsP_e_letGo; exact iw_cons (List.mem_of_getElem? (i := 605) (by decide +kernel)) (iw_app (iw_app (gx_pos [209, 606, 607, 608, 95, 568, 570, 569, 105, 610] (by decide +kernel)) inX7) (iw_app iw_e_rowCell iw_nil))
set_option maxRecDepth 20000 in
theorem iw_e_moveG : ∀ w ∈ wsP_e_moveG, w ∈ lw_tbl := by unfold wsP_e_moveG; exact iw_cons (List.mem_of_getElem? (i := 601) (by decide +kernel)) (iw_app (gx_pos [602, 604, 17, 95] (by decide +kernel)) (iw_app iw_e_letGo iw_nil))
set_option maxRecDepth 20000 in
theorem iw_c_partsAt : ∀ w ∈ wsP_c_partsAt, w ∈ lw_tbl := by unfold wsP_c_partsAt; exact iw_cons (List.mem_of_getElem? (i := 492) (by decide +kernel)) iw_nil
set_option maxRecDepth 20000 in
theorem iw_c_rowInt : ∀ w ∈ wsP_c_rowInt, w ∈ lw_tbl := by unfold wsP_c_rowInt; exact iw_cons (List.mem_of_getElem? (i := 619) (by decide +kernel)) (iw_app (gx_pos [209] (by decide +kernel)) inX7)
set_option maxRecDepth 20000 in
theorem iw_e_seen : ∀ w ∈ wsP_e_seen, w ∈ lw_tbl := by unfold wsP_e_seen; exact iw_cons (List.mem_of_getElem? (i := 615) (by decide +kernel)) (iw_app (iw_app (gx_pos [583, 584, 585, 95, 209, 606, 607, 608, 616, 617, 618] (by decide +kernel)) inX7) (iw_app iw_c_rowSize (iw_app iw_e_rowCell (iw_app iw_c_rowInt iw_nil))))
set_option maxRecDepth 20000 in
theorem iw_e_valueOf : ∀ w ∈ wsP_e_valueOf, w ∈ lw_tbl := by unfold wsP_e_valueOf; exact iw_cons (List.mem_of_getElem? (i := 623) (by decide +kernel)) (iw_app (iw_app (gx_pos [209] (by decide +kernel)) inX7) iw_nil)
set_option maxRecDepth 20000 in
theorem iw_e_put : ∀ w ∈ wsP_e_put, w ∈ lw_tbl := by unfold wsP_e_put; exact iw_cons (List.mem_of_getElem? (i := 627) (by decide +kernel)) (iw_app (iw_app (gx_pos [583, 584, 585, 95, 209] (by decide +kernel)) inX7) (iw_app iw_c_rowSize iw_nil))
set_option maxRecDepth 20000 in
theorem iw_e_forgetStored : ∀ w ∈ wsP_e_forgetStored, w ∈ lw_tbl := by unfold wsP_e_forgetStored; exact iw_cons (List.mem_of_getElem? (i := 631) (by decide +kernel)) (iw_app (iw_app (gx_pos [209, 632] (by decide +kernel)) inX7) iw_nil)
set_option maxRecDepth 20000 in
theorem iw_e_lock : ∀ w ∈ wsP_e_lock, w ∈ lw_tbl := by unfold wsP_e_lock; exact iw_cons (List.mem_of_getElem? (i := 636) (by decide +kernel)) (iw_app (iw_app (gx_pos [620, 622, 19, 95, 209] (by decide +kernel)) inX7) (iw_app iw_e_valueOf iw_nil))
set_option maxRecDepth 20000 in
theorem iw_e_moveK : ∀ w ∈ wsP_e_moveK, w ∈ lw_tbl := by unfold wsP_e_moveK; exact iw_cons (List.mem_of_getElem? (i := 601) (by decide +kernel)) (iw_app (iw_app (iw_app (gx_pos [143, 587, 588, 589, 95, 611, 491, 93, 209, 612, 614, 18, 620, 622, 19, 624, 626, 20, 628, 630, 21, 633, 635, 22] (by decide +kernel)) inX4) inX7) (iw_app iw_c_nextOf (iw_app iw_c_partsAt (iw_app iw_e_seen (iw_app iw_e_valueOf (iw_app iw_e_put (iw_app iw_e_forgetStored (iw_app iw_e_lock iw_nil))))))))
set_option maxRecDepth 20000 in
theorem iw_x_go : ∀ w ∈ wsP_x_go, w ∈ lw_tbl := by unfold wsP_x_go; exact iw_cons (List.mem_of_getElem? (i := 578) (by decide +kernel)) (iw_app (iw_app (gx_pos [219, 215, 579, 580, 581, 95, 221, 598, 599, 600, 222] (by decide +kernel)) inX3) (iw_app iw_x_can8 (iw_app iw_e_moveG (iw_app iw_e_moveK iw_nil))))
set_option maxRecDepth 20000 in
theorem iw_x_step8 : ∀ w ∈ wsP_x_step8, w ∈ lw_tbl := by unfold wsP_x_step8; exact iw_cons (List.mem_of_getElem? (i := 574) (by decide +kernel)) (iw_app (iw_app (iw_app (gx_pos [323, 218, 322, 575, 576, 577, 94] (by decide +kernel)) inX8) inX3) (iw_app iw_x_go iw_nil))
set_option maxRecDepth 20000 in
theorem iw_x_takeBack : ∀ w ∈ wsP_x_takeBack, w ∈ lw_tbl := by unfold wsP_x_takeBack; exact iw_cons (List.mem_of_getElem? (i := 644) (by decide +kernel)) (iw_app (iw_app (gx_pos [219, 215, 563, 564, 565, 95, 222, 221, 598, 599, 600] (by decide +kernel)) inX3) (iw_app iw_e_start (iw_app iw_e_moveG (iw_app iw_e_moveK iw_nil))))
set_option maxRecDepth 20000 in
theorem iw_x_undo8 : ∀ w ∈ wsP_x_undo8, w ∈ lw_tbl := by unfold wsP_x_undo8; exact iw_cons (List.mem_of_getElem? (i := 640) (by decide +kernel)) (iw_app (iw_app (iw_app (gx_pos [323, 218, 322, 641, 642, 643, 94] (by decide +kernel)) inX8) inX3) (iw_app iw_x_takeBack iw_nil))
set_option maxRecDepth 20000 in
theorem iw_x_register8 : ∀ w ∈ wsP_x_register8, w ∈ lw_tbl := by unfold wsP_x_register8; exact iw_cons (List.mem_of_getElem? (i := 648) (by decide +kernel)) (iw_app (iw_app (iw_app (iw_app (gx_pos [323, 218, 547, 549, 16, 91, 216, 211] (by decide +kernel)) inX8) inX3) inX7) (iw_app iw_x_hasCore iw_nil))
set_option maxRecDepth 20000 in
theorem iw_x_memory8 : ∀ w ∈ wsP_x_memory8, w ∈ lw_tbl := by unfold wsP_x_memory8; exact iw_cons (List.mem_of_getElem? (i := 652) (by decide +kernel)) (iw_app (iw_app (iw_app (iw_app (gx_pos [323, 218, 216, 211] (by decide +kernel)) inX8) inX3) inX7) iw_nil)
set_option maxRecDepth 20000 in
theorem iw_x_next8 : ∀ w ∈ wsP_x_next8, w ∈ lw_tbl := by unfold wsP_x_next8; exact iw_cons (List.mem_of_getElem? (i := 656) (by decide +kernel)) (iw_app (iw_app (iw_app (gx_pos [323, 218, 547, 549, 16, 91, 216, 657, 588, 589, 95] (by decide +kernel)) inX8) inX3) (iw_app iw_x_hasCore (iw_app iw_c_nextOf iw_nil)))
set_option maxRecDepth 20000 in
theorem iw_x_store8z : ∀ w ∈ wsP_x_store8z, w ∈ lw_tbl := by unfold wsP_x_store8z; exact iw_cons (List.mem_of_getElem? (i := 661) (by decide +kernel)) (iw_app (iw_app (iw_app (gx_pos [323, 218] (by decide +kernel)) inX8) inX3) iw_nil)
set_option maxRecDepth 20000 in
theorem iw_x_store8 : ∀ w ∈ wsP_x_store8, w ∈ lw_tbl := by unfold wsP_x_store8; exact iw_cons (List.mem_of_getElem? (i := 661) (by decide +kernel)) (iw_app (iw_app (iw_app (gx_pos [323, 218, 547, 549, 16, 91, 216, 662, 584, 585, 95, 664, 617, 618, 663, 607, 608] (by decide +kernel)) inX8) inX3) (iw_app iw_x_hasCore (iw_app iw_c_rowSize (iw_app iw_c_rowInt (iw_app iw_e_rowCell iw_nil)))))
set_option maxRecDepth 20000 in
theorem iw_c_isMode : ∀ w ∈ wsP_c_isMode, w ∈ lw_tbl := by unfold wsP_c_isMode; exact iw_cons (List.mem_of_getElem? (i := 558) (by decide +kernel)) iw_nil
set_option maxRecDepth 20000 in
theorem iw_c_X1_init : ∀ w ∈ wsP_c_X1_init, w ∈ lw_tbl := by unfold wsP_c_X1_init; exact iw_cons (List.mem_of_getElem? (i := 681) (by decide +kernel)) (iw_app (iw_app (gx_pos [682, 115, 116, 155, 690, 692, 683, 204, 95, 208, 209, 207, 206, 695, 697, 698, 699, 700, 701] (by decide +kernel)) inX1) inX7)
set_option maxRecDepth 20000 in
theorem iw_c_atHandN : ∀ w ∈ wsP_c_atHandN, w ∈ lw_tbl := by unfold wsP_c_atHandN; exact iw_cons (List.mem_of_getElem? (i := 676) (by decide +kernel)) (iw_app (iw_app (iw_app (gx_pos [324, 677, 678, 106, 680] (by decide +kernel)) inX8) inX1) (iw_app iw_c_X1_init iw_nil))
set_option maxRecDepth 20000 in
theorem iw_c_widthOf : ∀ w ∈ wsP_c_widthOf, w ∈ lw_tbl := by unfold wsP_c_widthOf; exact iw_cons (List.mem_of_getElem? (i := 730) (by decide +kernel)) (iw_app (gx_pos [130] (by decide +kernel)) inX4)
set_option maxRecDepth 20000 in
theorem iw_c_start : ∀ w ∈ wsP_c_start, w ∈ lw_tbl := by unfold wsP_c_start; exact iw_cons (List.mem_of_getElem? (i := 566) (by decide +kernel)) (iw_app (iw_app (gx_pos [209, 567, 448, 104, 449, 140, 568, 570, 569, 105] (by decide +kernel)) inX7) inX4)
set_option maxRecDepth 20000 in
theorem iw_c_hashOf : ∀ w ∈ wsP_c_hashOf, w ∈ lw_tbl := by unfold wsP_c_hashOf; exact iw_cons (List.mem_of_getElem? (i := 739) (by decide +kernel)) (iw_app (iw_app (gx_pos [698, 740] (by decide +kernel)) inX1) iw_nil)
set_option maxRecDepth 20000 in
theorem iw_c_xSame : ∀ w ∈ wsP_c_xSame, w ∈ lw_tbl := by unfold wsP_c_xSame; exact iw_cons (List.mem_of_getElem? (i := 765) (by decide +kernel)) (iw_app (iw_app (gx_pos [698, 699] (by decide +kernel)) inX1) iw_nil)
set_option maxRecDepth 20000 in
theorem iw_c_copyOf : ∀ w ∈ wsP_c_copyOf, w ∈ lw_tbl := by unfold wsP_c_copyOf; exact iw_cons (List.mem_of_getElem? (i := 751) (by decide +kernel)) (iw_app (gx_pos [155, 759, 747, 107, 748, 760, 570, 569, 105] (by decide +kernel)) iw_nil)
set_option maxRecDepth 20000 in
theorem iw_c_add : ∀ w ∈ wsP_c_add, w ∈ lw_tbl := by unfold wsP_c_add; exact iw_cons (List.mem_of_getElem? (i := 744) (by decide +kernel)) (iw_app (iw_app (gx_pos [685, 698, 699, 761, 570, 569, 105, 701, 700, 745, 746, 747, 107, 748, 749, 750, 104] (by decide +kernel)) inX1) (iw_app iw_c_copyOf iw_nil))
set_option maxRecDepth 20000 in
theorem iw_c_keep : ∀ w ∈ wsP_c_keep, w ∈ lw_tbl := by unfold wsP_c_keep; exact iw_cons (List.mem_of_getElem? (i := 735) (by decide +kernel)) (iw_app (iw_app (gx_pos [736, 738, 26, 106, 700, 762, 764, 28, 741, 743, 27] (by decide +kernel)) inX1) (iw_app iw_c_hashOf (iw_app iw_c_xSame (iw_app iw_c_add iw_nil))))
set_option maxRecDepth 20000 in
theorem iw_c_fetch : ∀ w ∈ wsP_c_fetch, w ∈ lw_tbl := by unfold wsP_c_fetch; exact iw_cons (List.mem_of_getElem? (i := 769) (by decide +kernel)) (iw_app (iw_app (iw_app (gx_pos [699, 698, 695, 210, 761, 570, 569, 105] (by decide +kernel)) inX1) inX7) iw_nil)
set_option maxRecDepth 20000 in
theorem iw_c_hasEnded : ∀ w ∈ wsP_c_hasEnded, w ∈ lw_tbl := by unfold wsP_c_hasEnded; exact iw_cons (List.mem_of_getElem? (i := 773) (by decide +kernel)) (iw_app (iw_app (gx_pos [130, 209, 137] (by decide +kernel)) inX4) inX7)
set_option maxRecDepth 20000 in
theorem iw_c_can : ∀ w ∈ wsP_c_can, w ∈ lw_tbl := by unfold wsP_c_can; exact iw_cons (List.mem_of_getElem? (i := 582) (by decide +kernel)) (iw_app (iw_app (gx_pos [130, 587, 588, 589, 95, 209, 590, 137, 583, 584, 585, 586, 591, 528, 529, 93, 142, 490, 491, 492, 530, 592, 593, 595, 596, 597, 594] (by decide +kernel)) inX4) inX7)
set_option maxRecDepth 20000 in
theorem iw_c_moveG : ∀ w ∈ wsP_c_moveG, w ∈ lw_tbl := by unfold wsP_c_moveG; exact iw_cons (List.mem_of_getElem? (i := 601) (by decide +kernel)) (iw_app (gx_pos [602, 604, 17, 95, 209, 606, 607, 608, 609, 568, 570, 569, 105, 610, 605] (by decide +kernel)) inX7)
set_option maxRecDepth 20000 in
theorem iw_c_moveK : ∀ w ∈ wsP_c_moveK, w ∈ lw_tbl := by unfold wsP_c_moveK; exact iw_cons (List.mem_of_getElem? (i := 601) (by decide +kernel)) (iw_app (iw_app (gx_pos [143, 587, 588, 589, 95, 209, 590, 611, 491, 93, 492, 612, 614, 18, 583, 584, 585, 586, 606, 607, 608, 609, 616, 617, 618, 619, 615, 620, 622, 19, 623, 624, 626, 20, 627, 628, 630, 21, 632, 631, 633, 635, 22, 636] (by decide +kernel)) inX4) inX7)
set_option maxRecDepth 20000 in
theorem iw_c_isBefore : ∀ w ∈ wsP_c_isBefore, w ∈ lw_tbl := by unfold wsP_c_isBefore; exact iw_cons (List.mem_of_getElem? (i := 781) (by decide +kernel)) (iw_app (iw_app (gx_pos [699, 698] (by decide +kernel)) inX1) iw_nil)
set_option maxRecDepth 20000 in
theorem iw_c_addEnd : ∀ w ∈ wsP_c_addEnd, w ∈ lw_tbl := by unfold wsP_c_addEnd; exact iw_cons (List.mem_of_getElem? (i := 777) (by decide +kernel)) (iw_app (iw_app (gx_pos [688, 690, 761, 570, 569, 105, 778, 780, 30, 106] (by decide +kernel)) inX1) (iw_app iw_c_isBefore iw_nil))
set_option maxRecDepth 20000 in
theorem iw_c_explore : ∀ w ∈ wsP_c_explore, w ∈ lw_tbl := by unfold wsP_c_explore; exact iw_cons (List.mem_of_getElem? (i := 726) (by decide +kernel)) (iw_app (iw_app (iw_app (gx_pos [700, 727, 448, 104, 685, 688, 728, 729, 95, 698, 695, 731, 564, 565, 95, 210, 732, 734, 25, 106, 766, 767, 768, 770, 771, 772, 782, 580, 581, 697, 761, 570, 569, 105, 783, 599, 600, 774, 776, 29] (by decide +kernel)) inX1) inX7) (iw_app iw_c_fill (iw_app iw_c_widthOf (iw_app iw_c_start (iw_app iw_c_keep (iw_app iw_c_fetch (iw_app iw_c_hasEnded (iw_app iw_c_can (iw_app iw_c_moveG (iw_app iw_c_moveK (iw_app iw_c_addEnd iw_nil)))))))))))
set_option maxRecDepth 20000 in
theorem iw_c_rangeCheck : ∀ w ∈ wsP_c_rangeCheck, w ∈ lw_tbl := by unfold wsP_c_rangeCheck; exact iw_cons (List.mem_of_getElem? (i := 802) (by decide +kernel)) (iw_app iw_nil iw_nil)
set_option maxRecDepth 20000 in
theorem iw_c_fill4 : ∀ w ∈ wsP_c_fill4, w ∈ lw_tbl := by unfold wsP_c_fill4; exact iw_cons (List.mem_of_getElem? (i := 799) (by decide +kernel)) (iw_app (gx_pos [800, 801, 104] (by decide +kernel)) (iw_app iw_c_rangeCheck iw_nil))
set_option maxRecDepth 20000 in
theorem iw_c_pathTo : ∀ w ∈ wsP_c_pathTo, w ∈ lw_tbl := by unfold wsP_c_pathTo; exact iw_cons (List.mem_of_getElem? (i := 806) (by decide +kernel)) (iw_app (iw_app (gx_pos [692, 701] (by decide +kernel)) inX1) iw_nil)
set_option maxRecDepth 20000 in
theorem iw_c_xInt : ∀ w ∈ wsP_c_xInt, w ∈ lw_tbl := by unfold wsP_c_xInt; exact iw_cons (List.mem_of_getElem? (i := 796) (by decide +kernel)) (iw_app (iw_app (gx_pos [699, 698] (by decide +kernel)) inX1) iw_nil)
set_option maxRecDepth 20000 in
theorem iw_c_record : ∀ w ∈ wsP_c_record, w ∈ lw_tbl := by unfold wsP_c_record; exact iw_cons (List.mem_of_getElem? (i := 792) (by decide +kernel)) (iw_app (iw_app (iw_app (gx_pos [691, 248, 797, 798, 104, 803, 804, 805, 106, 694, 793, 794, 795] (by decide +kernel)) inX1) inX2) (iw_app iw_c_fill4 (iw_app iw_c_pathTo (iw_app iw_c_xInt iw_nil))))
set_option maxRecDepth 20000 in
theorem iw_c_fillF : ∀ w ∈ wsP_c_fillF, w ∈ lw_tbl := by unfold wsP_c_fillF; exact iw_cons (List.mem_of_getElem? (i := 787) (by decide +kernel)) (iw_app (iw_app (iw_app (gx_pos [240, 242, 686, 245, 246, 248, 789, 791, 31, 96, 788, 747, 107, 748, 155, 689] (by decide +kernel)) inX2) inX1) (iw_app iw_c_record iw_nil))
set_option maxRecDepth 20000 in
theorem iw_c_found0N : ∀ w ∈ wsP_c_found0N, w ∈ lw_tbl := by unfold wsP_c_found0N; exact iw_cons (List.mem_of_getElem? (i := 672) (by decide +kernel)) (iw_app (iw_app (iw_app (gx_pos [326, 241, 673, 675, 24, 91, 322, 723, 724, 725, 106, 784, 785, 786, 96] (by decide +kernel)) inX8) inX2) (iw_app iw_c_atHandN (iw_app iw_c_explore (iw_app iw_c_fillF iw_nil))))
set_option maxRecDepth 20000 in
theorem iw_c_found1N : ∀ w ∈ wsP_c_found1N, w ∈ lw_tbl := by unfold wsP_c_found1N; exact iw_cons (List.mem_of_getElem? (i := 672) (by decide +kernel)) (iw_app (iw_app (iw_app (gx_pos [325, 241, 673, 675, 24, 91, 322, 723, 724, 725, 106, 784, 785, 786, 96] (by decide +kernel)) inX8) inX2) (iw_app iw_c_atHandN (iw_app iw_c_explore (iw_app iw_c_fillF iw_nil))))
set_option maxRecDepth 20000 in
theorem iw_c_outcomesN : ∀ w ∈ wsP_c_outcomesN, w ∈ lw_tbl := by unfold wsP_c_outcomesN; exact iw_cons (List.mem_of_getElem? (i := 668) (by decide +kernel)) (iw_app (iw_app (iw_app (gx_pos [321, 556, 557, 91, 669, 671, 23, 91, 244, 247] (by decide +kernel)) inX8) inX2) (iw_app iw_c_isMode (iw_app iw_c_found0N (iw_app iw_c_found1N iw_nil))))
set_option maxRecDepth 20000 in
theorem iw_c_atHandE : ∀ w ∈ wsP_c_atHandE, w ∈ lw_tbl := by unfold wsP_c_atHandE; exact iw_cons (List.mem_of_getElem? (i := 676) (by decide +kernel)) (iw_app (iw_app (gx_pos [324] (by decide +kernel)) inX8) iw_nil)
set_option maxRecDepth 20000 in
theorem iw_c_found0E : ∀ w ∈ wsP_c_found0E, w ∈ lw_tbl := by unfold wsP_c_found0E; exact iw_cons (List.mem_of_getElem? (i := 672) (by decide +kernel)) (iw_app (iw_app (iw_app (gx_pos [326, 241, 673, 675, 24, 91, 322, 723, 724, 725, 106, 784, 785, 786, 96] (by decide +kernel)) inX8) inX2) (iw_app iw_c_atHandE (iw_app iw_c_explore (iw_app iw_c_fillF iw_nil))))
set_option maxRecDepth 20000 in
theorem iw_c_found1E : ∀ w ∈ wsP_c_found1E, w ∈ lw_tbl := by unfold wsP_c_found1E; exact iw_cons (List.mem_of_getElem? (i := 672) (by decide +kernel)) (iw_app (iw_app (iw_app (gx_pos [325, 241, 673, 675, 24, 91, 322, 723, 724, 725, 106, 784, 785, 786, 96] (by decide +kernel)) inX8) inX2) (iw_app iw_c_atHandE (iw_app iw_c_explore (iw_app iw_c_fillF iw_nil))))
set_option maxRecDepth 20000 in
theorem iw_c_outcomesE : ∀ w ∈ wsP_c_outcomesE, w ∈ lw_tbl := by unfold wsP_c_outcomesE; exact iw_cons (List.mem_of_getElem? (i := 668) (by decide +kernel)) (iw_app (iw_app (iw_app (gx_pos [321, 556, 557, 91, 669, 671, 23, 91, 244, 247] (by decide +kernel)) inX8) inX2) (iw_app iw_c_isMode (iw_app iw_c_found0E (iw_app iw_c_found1E iw_nil))))
set_option maxRecDepth 20000 in
theorem iw_c_has : ∀ w ∈ wsP_c_has, w ∈ lw_tbl := by unfold wsP_c_has; exact iw_cons (List.mem_of_getElem? (i := 814) (by decide +kernel)) (iw_app (gx_pos [246] (by decide +kernel)) inX2)
set_option maxRecDepth 20000 in
theorem iw_c_findInt : ∀ w ∈ wsP_c_findInt, w ∈ lw_tbl := by unfold wsP_c_findInt; exact iw_cons (List.mem_of_getElem? (i := 818) (by decide +kernel)) (iw_app (gx_pos [248] (by decide +kernel)) inX2)
set_option maxRecDepth 20000 in
theorem iw_c_outcomeN : ∀ w ∈ wsP_c_outcomeN, w ∈ lw_tbl := by unfold wsP_c_outcomeN; exact iw_cons (List.mem_of_getElem? (i := 810) (by decide +kernel)) (iw_app (iw_app (gx_pos [321, 556, 557, 91, 669, 671, 23, 91, 811, 812, 813, 96, 815, 816, 817] (by decide +kernel)) inX8) (iw_app iw_c_isMode (iw_app iw_c_found0N (iw_app iw_c_has (iw_app iw_c_findInt (iw_app iw_c_found1N iw_nil))))))
set_option maxRecDepth 20000 in
theorem iw_c_outcomeE : ∀ w ∈ wsP_c_outcomeE, w ∈ lw_tbl := by unfold wsP_c_outcomeE; exact iw_cons (List.mem_of_getElem? (i := 810) (by decide +kernel)) (iw_app (iw_app (gx_pos [321, 556, 557, 91, 669, 671, 23, 91, 811, 812, 813, 96, 815, 816, 817] (by decide +kernel)) inX8) (iw_app iw_c_isMode (iw_app iw_c_found0E (iw_app iw_c_has (iw_app iw_c_findInt (iw_app iw_c_found1E iw_nil))))))
set_option maxRecDepth 20000 in
theorem iw_c_stepOfF : ∀ w ∈ wsP_c_stepOfF, w ∈ lw_tbl := by unfold wsP_c_stepOfF; exact iw_cons (List.mem_of_getElem? (i := 826) (by decide +kernel)) (iw_app (iw_app (gx_pos [248] (by decide +kernel)) inX2) iw_nil)
set_option maxRecDepth 20000 in
theorem iw_c_scheduleN : ∀ w ∈ wsP_c_scheduleN, w ∈ lw_tbl := by unfold wsP_c_scheduleN; exact iw_cons (List.mem_of_getElem? (i := 822) (by decide +kernel)) (iw_app (iw_app (gx_pos [321, 556, 557, 91, 669, 671, 23, 91, 811, 812, 813, 96, 823, 824, 825] (by decide +kernel)) inX8) (iw_app iw_c_isMode (iw_app iw_c_found0N (iw_app iw_c_has (iw_app iw_c_stepOfF (iw_app iw_c_found1N iw_nil))))))
set_option maxRecDepth 20000 in
theorem iw_c_scheduleE : ∀ w ∈ wsP_c_scheduleE, w ∈ lw_tbl := by unfold wsP_c_scheduleE; exact iw_cons (List.mem_of_getElem? (i := 822) (by decide +kernel)) (iw_app (iw_app (gx_pos [321, 556, 557, 91, 669, 671, 23, 91, 811, 812, 813, 96, 823, 824, 825] (by decide +kernel)) inX8) (iw_app iw_c_isMode (iw_app iw_c_found0E (iw_app iw_c_has (iw_app iw_c_stepOfF (iw_app iw_c_found1E iw_nil))))))
set_option maxRecDepth 20000 in
theorem iw_c_compareI : ∀ w ∈ wsP_c_compareI, w ∈ lw_tbl := by unfold wsP_c_compareI; exact iw_cons (List.mem_of_getElem? (i := 842) (by decide +kernel)) (iw_app iw_nil iw_nil)
set_option maxRecDepth 20000 in
theorem iw_c_cmp : ∀ w ∈ wsP_c_cmp, w ∈ lw_tbl := by unfold wsP_c_cmp; exact iw_cons (List.mem_of_getElem? (i := 838) (by decide +kernel)) (iw_app (gx_pos [839, 816, 817, 96, 840, 841, 108] (by decide +kernel)) (iw_app iw_c_findInt (iw_app iw_c_compareI iw_nil)))
set_option maxRecDepth 20000 in
theorem iw_c_numberOther : ∀ w ∈ wsP_c_numberOther, w ∈ lw_tbl := by unfold wsP_c_numberOther; exact iw_cons (List.mem_of_getElem? (i := 834) (by decide +kernel)) (iw_app (iw_app (gx_pos [246, 835, 837, 32, 96] (by decide +kernel)) inX2) (iw_app iw_c_cmp iw_nil))
