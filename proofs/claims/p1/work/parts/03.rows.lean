
set_option maxRecDepth 20000 in
theorem ggX0_init_X4_init : GoodIn wsX0_init wsX4_init := goodIn_r _ [13, 14, 2, 3, 9, 15, 16, 17, 18, 19, 20, 21] (by decide +kernel) (by decide +kernel)
set_option maxRecDepth 20000 in
theorem gX0_init_X4_init_n11 : GoodIn wsX0_init (wsX4_init) := ggX0_init_X4_init
theorem dX0_init_0 : decode cX0_init 0 = .ok (.aload_n 0, 1) := by decide +kernel
theorem dX0_init_1 : decode cX0_init 1 = .ok (.invokespecial 3, 3) := by decide +kernel
theorem dX0_init_4 : decode cX0_init 4 = .ok (.aload_n 0, 1) := by decide +kernel
theorem dX0_init_5 : decode cX0_init 5 = .ok (.new 9, 3) := by decide +kernel
theorem dX0_init_8 : decode cX0_init 8 = .ok (.dup, 1) := by decide +kernel
theorem dX0_init_9 : decode cX0_init 9 = .ok (.invokespecial 11, 3) := by decide +kernel
theorem dX0_init_12 : decode cX0_init 12 = .ok (.putfield 12, 3) := by decide +kernel
theorem dX0_init_15 : decode cX0_init 15 = .ok (.aload_n 0, 1) := by decide +kernel
theorem dX0_init_16 : decode cX0_init 16 = .ok (.iconst (-1), 1) := by decide +kernel
theorem dX0_init_17 : decode cX0_init 17 = .ok (.putfield 18, 3) := by decide +kernel
theorem dX0_init_20 : decode cX0_init 20 = .ok (.aload_n 0, 1) := by decide +kernel
theorem dX0_init_21 : decode cX0_init 21 = .ok (.iconst 2, 1) := by decide +kernel
theorem dX0_init_22 : decode cX0_init 22 = .ok (.newarray .int, 2) := by decide +kernel
theorem dX0_init_24 : decode cX0_init 24 = .ok (.putfield 22, 3) := by decide +kernel
theorem dX0_init_27 : decode cX0_init 27 = .ok (.aload_n 0, 1) := by decide +kernel
theorem dX0_init_28 : decode cX0_init 28 = .ok (.iconst 2, 1) := by decide +kernel
theorem dX0_init_29 : decode cX0_init 29 = .ok (.newarray .int, 2) := by decide +kernel
theorem dX0_init_31 : decode cX0_init 31 = .ok (.putfield 26, 3) := by decide +kernel
theorem dX0_init_34 : decode cX0_init 34 = .ok (.return_, 1) := by decide +kernel
theorem dX0_toldPlace_0 : decode cX0_toldPlace 0 = .ok (.iload_n 1, 1) := by decide +kernel
theorem dX0_toldPlace_1 : decode cX0_toldPlace 1 = .ok (.ifCond .lt 25, 3) := by decide +kernel
theorem dX0_toldPlace_4 : decode cX0_toldPlace 4 = .ok (.iload_n 1, 1) := by decide +kernel
theorem dX0_toldPlace_5 : decode cX0_toldPlace 5 = .ok (.aload_n 0, 1) := by decide +kernel
theorem dX0_toldPlace_6 : decode cX0_toldPlace 6 = .ok (.getfield 42, 3) := by decide +kernel
theorem dX0_toldPlace_9 : decode cX0_toldPlace 9 = .ok (.if_icmp .ge 17, 3) := by decide +kernel
theorem dX0_toldPlace_12 : decode cX0_toldPlace 12 = .ok (.iload_n 1, 1) := by decide +kernel
theorem dX0_toldPlace_13 : decode cX0_toldPlace 13 = .ok (.iconst 2, 1) := by decide +kernel
theorem dX0_toldPlace_14 : decode cX0_toldPlace 14 = .ok (.if_icmp .ge 12, 3) := by decide +kernel
theorem dX0_toldPlace_17 : decode cX0_toldPlace 17 = .ok (.aload_n 0, 1) := by decide +kernel
theorem dX0_toldPlace_18 : decode cX0_toldPlace 18 = .ok (.getfield 26, 3) := by decide +kernel
theorem dX0_toldPlace_21 : decode cX0_toldPlace 21 = .ok (.iload_n 1, 1) := by decide +kernel
theorem dX0_toldPlace_22 : decode cX0_toldPlace 22 = .ok (.iaload, 1) := by decide +kernel
theorem dX0_toldPlace_23 : decode cX0_toldPlace 23 = .ok (.goto 4, 3) := by decide +kernel
theorem dX0_toldPlace_26 : decode cX0_toldPlace 26 = .ok (.iconst (-1), 1) := by decide +kernel
theorem dX0_toldPlace_27 : decode cX0_toldPlace 27 = .ok (.ireturn, 1) := by decide +kernel
theorem dX2_init_0 : decode cX2_init 0 = .ok (.aload_n 0, 1) := by decide +kernel
theorem dX2_init_1 : decode cX2_init 1 = .ok (.invokespecial 5, 3) := by decide +kernel
theorem dX2_init_4 : decode cX2_init 4 = .ok (.aload_n 0, 1) := by decide +kernel
theorem dX2_init_5 : decode cX2_init 5 = .ok (.bipush 17, 2) := by decide +kernel
theorem dX2_init_7 : decode cX2_init 7 = .ok (.newarray .int, 2) := by decide +kernel
theorem dX2_init_9 : decode cX2_init 9 = .ok (.putfield 11, 3) := by decide +kernel
theorem dX2_init_12 : decode cX2_init 12 = .ok (.return_, 1) := by decide +kernel
set_option maxRecDepth 20000 in
theorem ggX3_init_X7_init : GoodIn wsX3_init wsX7_init := goodIn_r _ [11, 12, 2, 3, 8, 13, 14] (by decide +kernel) (by decide +kernel)
set_option maxRecDepth 20000 in
theorem gX3_init_X7_init_n11 : GoodIn wsX3_init (wsX7_init) := ggX3_init_X7_init
theorem dX3_init_0 : decode cX3_init 0 = .ok (.aload_n 0, 1) := by decide +kernel
theorem dX3_init_1 : decode cX3_init 1 = .ok (.invokespecial 3, 3) := by decide +kernel
theorem dX3_init_4 : decode cX3_init 4 = .ok (.aload_n 0, 1) := by decide +kernel
theorem dX3_init_5 : decode cX3_init 5 = .ok (.new 9, 3) := by decide +kernel
theorem dX3_init_8 : decode cX3_init 8 = .ok (.dup, 1) := by decide +kernel
theorem dX3_init_9 : decode cX3_init 9 = .ok (.invokespecial 11, 3) := by decide +kernel
theorem dX3_init_12 : decode cX3_init 12 = .ok (.putfield 12, 3) := by decide +kernel
theorem dX3_init_15 : decode cX3_init 15 = .ok (.aload_n 0, 1) := by decide +kernel
theorem dX3_init_16 : decode cX3_init 16 = .ok (.bipush 38, 2) := by decide +kernel
theorem dX3_init_18 : decode cX3_init 18 = .ok (.newarray .int, 2) := by decide +kernel
theorem dX3_init_20 : decode cX3_init 20 = .ok (.putfield 18, 3) := by decide +kernel
theorem dX3_init_23 : decode cX3_init 23 = .ok (.return_, 1) := by decide +kernel
theorem dX4_init_0 : decode cX4_init 0 = .ok (.aload_n 0, 1) := by decide +kernel
theorem dX4_init_1 : decode cX4_init 1 = .ok (.invokespecial 3, 3) := by decide +kernel
theorem dX4_init_4 : decode cX4_init 4 = .ok (.aload_n 0, 1) := by decide +kernel
theorem dX4_init_5 : decode cX4_init 5 = .ok (.iconst 3, 1) := by decide +kernel
theorem dX4_init_6 : decode cX4_init 6 = .ok (.newarray .int, 2) := by decide +kernel
theorem dX4_init_8 : decode cX4_init 8 = .ok (.putfield 9, 3) := by decide +kernel
theorem dX4_init_11 : decode cX4_init 11 = .ok (.aload_n 0, 1) := by decide +kernel
theorem dX4_init_12 : decode cX4_init 12 = .ok (.iconst 4, 1) := by decide +kernel
theorem dX4_init_13 : decode cX4_init 13 = .ok (.newarray .int, 2) := by decide +kernel
theorem dX4_init_15 : decode cX4_init 15 = .ok (.putfield 15, 3) := by decide +kernel
theorem dX4_init_18 : decode cX4_init 18 = .ok (.aload_n 0, 1) := by decide +kernel
theorem dX4_init_19 : decode cX4_init 19 = .ok (.sipush 192, 3) := by decide +kernel
theorem dX4_init_22 : decode cX4_init 22 = .ok (.newarray .int, 2) := by decide +kernel
theorem dX4_init_24 : decode cX4_init 24 = .ok (.putfield 18, 3) := by decide +kernel
theorem dX4_init_27 : decode cX4_init 27 = .ok (.return_, 1) := by decide +kernel
set_option maxRecDepth 20000 in
theorem ggX4_clear_J7_fill_53178 : GoodIn wsX4_clear wsJ7_fill_53178 := goodIn_r _ [7] (by decide +kernel) (by decide +kernel)
set_option maxRecDepth 20000 in
theorem gX4_clear_J7_fill_53178 : GoodIn wsX4_clear (va_wsS RX4 25 yJ7_fill_53178 wsJ7_fill_53178) := goodIn_app (goodIn_of _ (by decide +kernel)) ggX4_clear_J7_fill_53178
theorem dX4_clear_0 : decode cX4_clear 0 = .ok (.aload_n 0, 1) := by decide +kernel
theorem dX4_clear_1 : decode cX4_clear 1 = .ok (.iconst 0, 1) := by decide +kernel
theorem dX4_clear_2 : decode cX4_clear 2 = .ok (.putfield 21, 3) := by decide +kernel
theorem dX4_clear_5 : decode cX4_clear 5 = .ok (.aload_n 0, 1) := by decide +kernel
theorem dX4_clear_6 : decode cX4_clear 6 = .ok (.getfield 9, 3) := by decide +kernel
theorem dX4_clear_9 : decode cX4_clear 9 = .ok (.iconst 0, 1) := by decide +kernel
theorem dX4_clear_10 : decode cX4_clear 10 = .ok (.invokestatic 25, 3) := by decide +kernel
theorem dX4_clear_13 : decode cX4_clear 13 = .ok (.aload_n 0, 1) := by decide +kernel
theorem dX4_clear_14 : decode cX4_clear 14 = .ok (.getfield 15, 3) := by decide +kernel
theorem dX4_clear_17 : decode cX4_clear 17 = .ok (.iconst 0, 1) := by decide +kernel
theorem dX4_clear_18 : decode cX4_clear 18 = .ok (.invokestatic 25, 3) := by decide +kernel
theorem dX4_clear_21 : decode cX4_clear 21 = .ok (.return_, 1) := by decide +kernel
theorem dX5_init_0 : decode cX5_init 0 = .ok (.aload_n 0, 1) := by decide +kernel
theorem dX5_init_1 : decode cX5_init 1 = .ok (.invokespecial 3, 3) := by decide +kernel
theorem dX5_init_4 : decode cX5_init 4 = .ok (.aload_n 0, 1) := by decide +kernel
theorem dX5_init_5 : decode cX5_init 5 = .ok (.bipush 38, 2) := by decide +kernel
theorem dX5_init_7 : decode cX5_init 7 = .ok (.newarray .int, 2) := by decide +kernel
theorem dX5_init_9 : decode cX5_init 9 = .ok (.putfield 9, 3) := by decide +kernel
theorem dX5_init_12 : decode cX5_init 12 = .ok (.return_, 1) := by decide +kernel
set_option maxRecDepth 20000 in
theorem ggX6_init_X4_init : GoodIn wsX6_init wsX4_init := goodIn_r _ [15, 16, 2, 3, 9, 17, 18, 19, 20, 21, 22, 23] (by decide +kernel) (by decide +kernel)
set_option maxRecDepth 20000 in
theorem gX6_init_X4_init_n11 : GoodIn wsX6_init (wsX4_init) := ggX6_init_X4_init
theorem dX6_init_0 : decode cX6_init 0 = .ok (.aload_n 0, 1) := by decide +kernel
theorem dX6_init_1 : decode cX6_init 1 = .ok (.invokespecial 3, 3) := by decide +kernel
theorem dX6_init_4 : decode cX6_init 4 = .ok (.aload_n 0, 1) := by decide +kernel
theorem dX6_init_5 : decode cX6_init 5 = .ok (.new 9, 3) := by decide +kernel
theorem dX6_init_8 : decode cX6_init 8 = .ok (.dup, 1) := by decide +kernel
theorem dX6_init_9 : decode cX6_init 9 = .ok (.invokespecial 11, 3) := by decide +kernel
theorem dX6_init_12 : decode cX6_init 12 = .ok (.putfield 12, 3) := by decide +kernel
theorem dX6_init_15 : decode cX6_init 15 = .ok (.aload_n 0, 1) := by decide +kernel
theorem dX6_init_16 : decode cX6_init 16 = .ok (.iconst (-1), 1) := by decide +kernel
theorem dX6_init_17 : decode cX6_init 17 = .ok (.putfield 18, 3) := by decide +kernel
theorem dX6_init_20 : decode cX6_init 20 = .ok (.aload_n 0, 1) := by decide +kernel
theorem dX6_init_21 : decode cX6_init 21 = .ok (.sipush 501, 3) := by decide +kernel
theorem dX6_init_24 : decode cX6_init 24 = .ok (.newarray .int, 2) := by decide +kernel
theorem dX6_init_26 : decode cX6_init 26 = .ok (.putfield 22, 3) := by decide +kernel
theorem dX6_init_29 : decode cX6_init 29 = .ok (.aload_n 0, 1) := by decide +kernel
theorem dX6_init_30 : decode cX6_init 30 = .ok (.sipush 501, 3) := by decide +kernel
theorem dX6_init_33 : decode cX6_init 33 = .ok (.newarray .int, 2) := by decide +kernel
theorem dX6_init_35 : decode cX6_init 35 = .ok (.putfield 26, 3) := by decide +kernel
theorem dX6_init_38 : decode cX6_init 38 = .ok (.aload_n 0, 1) := by decide +kernel
theorem dX6_init_39 : decode cX6_init 39 = .ok (.sipush 501, 3) := by decide +kernel
theorem dX6_init_42 : decode cX6_init 42 = .ok (.newarray .int, 2) := by decide +kernel
theorem dX6_init_44 : decode cX6_init 44 = .ok (.putfield 29, 3) := by decide +kernel
theorem dX6_init_47 : decode cX6_init 47 = .ok (.aload_n 0, 1) := by decide +kernel
theorem dX6_init_48 : decode cX6_init 48 = .ok (.bipush 6, 2) := by decide +kernel
theorem dX6_init_50 : decode cX6_init 50 = .ok (.newarray .int, 2) := by decide +kernel
theorem dX6_init_52 : decode cX6_init 52 = .ok (.putfield 32, 3) := by decide +kernel
theorem dX6_init_55 : decode cX6_init 55 = .ok (.return_, 1) := by decide +kernel
set_option maxRecDepth 20000 in
theorem ggX6_readText_X6_scan : GoodIn wsX6_readText wsX6_scan := goodIn_r _ [11, 12, 13, 14, 15, 16, 10, 17, 18, 19, 20, 21, 22, 23, 24, 25, 26, 27, 28, 29, 30, 31, 32, 33, 34, 35, 36, 37, 38, 39, 40, 41, 42, 43, 44, 45, 46, 47, 48, 49, 50, 51, 52, 53, 54, 55, 56, 57, 58, 59, 60, 61, 62, 63, 64, 65, 66, 67, 68, 69, 70, 71, 72, 73, 74, 75, 76, 77, 78, 79, 174, 175, 176, 177, 178, 179, 180, 181, 182, 183, 184, 185] (by decide +kernel) (by decide +kernel)
set_option maxRecDepth 20000 in
theorem gX6_readText_X6_scan : GoodIn wsX6_readText (wsV RX6 35 RX6 yX6_scan wsX6_scan) := goodIn_app (goodIn_of _ (by decide +kernel)) ggX6_readText_X6_scan
set_option maxRecDepth 20000 in
theorem ggX6_readText_X4_clear : GoodIn wsX6_readText wsX4_clear := goodIn_r _ [84, 85, 86, 87, 88, 89, 90, 91, 186, 187, 188, 189] (by decide +kernel) (by decide +kernel)
set_option maxRecDepth 20000 in
theorem gX6_readText_X4_clear : GoodIn wsX6_readText (wsV RX6 51 RX4 yX4_clear wsX4_clear) := goodIn_app (goodIn_of _ (by decide +kernel)) ggX6_readText_X4_clear
set_option maxRecDepth 20000 in
theorem ggX6_readText_X6_readCells : GoodIn wsX6_readText wsX6_readCells := goodIn_r _ [95, 13, 4, 96, 97, 98, 10, 99, 100, 5, 6, 101, 102, 103, 104, 105, 106, 107, 108, 109, 1, 12, 2, 110, 111, 112, 113, 14, 114, 115, 116, 117, 3, 118, 119, 120, 121, 122, 174, 175, 176, 177, 178, 179, 180, 181, 182, 183, 184, 185, 186, 187, 188, 189] (by decide +kernel) (by decide +kernel)
set_option maxRecDepth 20000 in
theorem gX6_readText_X6_readCells : GoodIn wsX6_readText (wsV RX6 54 RX6 yX6_readCells wsX6_readCells) := goodIn_app (goodIn_of _ (by decide +kernel)) ggX6_readText_X6_readCells
set_option maxRecDepth 20000 in
theorem ggX6_readText_X6_readCores : GoodIn wsX6_readText wsX6_readCores := goodIn_r _ [126, 13, 4, 6, 127, 102, 103, 104, 10, 105, 106, 107, 108, 109, 1, 12, 2, 128, 129, 130, 131, 132, 133, 134, 135, 83, 136, 86, 137, 138, 139, 140, 141, 142, 143, 144, 145, 146, 39, 147, 41, 148, 149, 150, 151, 46, 47, 36, 37, 38, 40, 42, 43, 44, 45, 48, 49, 50, 51, 52, 53, 54, 55, 56, 57, 58, 59, 60, 61, 62, 63, 64, 65, 66, 67, 68, 69, 70, 71, 72, 73, 74, 75, 76, 152, 153, 154, 155, 156, 122, 100, 157, 158, 159, 160, 110, 111, 112, 113, 14, 114, 115, 116, 117, 3, 161, 162, 163, 164, 118, 119, 120, 121, 165, 166, 167, 168, 169, 170, 171, 172, 173, 174, 175, 176, 177, 178, 179, 180, 181, 182, 183, 184, 185, 186, 187, 188, 189] (by decide +kernel) (by decide +kernel)
set_option maxRecDepth 20000 in
theorem gX6_readText_X6_readCores : GoodIn wsX6_readText (wsV RX6 58 RX6 yX6_readCores wsX6_readCores) := goodIn_app (goodIn_of _ (by decide +kernel)) ggX6_readText_X6_readCores
theorem dX6_readText_0 : decode cX6_readText 0 = .ok (.aload_n 0, 1) := by decide +kernel
theorem dX6_readText_1 : decode cX6_readText 1 = .ok (.aload_n 1, 1) := by decide +kernel
theorem dX6_readText_2 : decode cX6_readText 2 = .ok (.iload_n 2, 1) := by decide +kernel
theorem dX6_readText_3 : decode cX6_readText 3 = .ok (.invokevirtual 35, 3) := by decide +kernel
theorem dX6_readText_6 : decode cX6_readText 6 = .ok (.aload_n 0, 1) := by decide +kernel
theorem dX6_readText_7 : decode cX6_readText 7 = .ok (.iconst 0, 1) := by decide +kernel
theorem dX6_readText_8 : decode cX6_readText 8 = .ok (.putfield 39, 3) := by decide +kernel
theorem dX6_readText_11 : decode cX6_readText 11 = .ok (.aload_n 0, 1) := by decide +kernel
theorem dX6_readText_12 : decode cX6_readText 12 = .ok (.iconst (-1), 1) := by decide +kernel
theorem dX6_readText_13 : decode cX6_readText 13 = .ok (.putfield 18, 3) := by decide +kernel
theorem dX6_readText_16 : decode cX6_readText 16 = .ok (.aload_n 0, 1) := by decide +kernel
theorem dX6_readText_17 : decode cX6_readText 17 = .ok (.iconst (-1), 1) := by decide +kernel
theorem dX6_readText_18 : decode cX6_readText 18 = .ok (.putfield 42, 3) := by decide +kernel
theorem dX6_readText_21 : decode cX6_readText 21 = .ok (.aload_n 0, 1) := by decide +kernel
theorem dX6_readText_22 : decode cX6_readText 22 = .ok (.iconst 0, 1) := by decide +kernel
theorem dX6_readText_23 : decode cX6_readText 23 = .ok (.putfield 45, 3) := by decide +kernel
theorem dX6_readText_26 : decode cX6_readText 26 = .ok (.aload_n 0, 1) := by decide +kernel
theorem dX6_readText_27 : decode cX6_readText 27 = .ok (.iconst 0, 1) := by decide +kernel
theorem dX6_readText_28 : decode cX6_readText 28 = .ok (.putfield 48, 3) := by decide +kernel
theorem dX6_readText_31 : decode cX6_readText 31 = .ok (.aload_n 0, 1) := by decide +kernel
theorem dX6_readText_32 : decode cX6_readText 32 = .ok (.getfield 12, 3) := by decide +kernel
theorem dX6_readText_35 : decode cX6_readText 35 = .ok (.invokevirtual 51, 3) := by decide +kernel
theorem dX6_readText_38 : decode cX6_readText 38 = .ok (.aload_n 0, 1) := by decide +kernel
theorem dX6_readText_39 : decode cX6_readText 39 = .ok (.invokevirtual 54, 3) := by decide +kernel
theorem dX6_readText_42 : decode cX6_readText 42 = .ok (.ifCond .eq 31, 3) := by decide +kernel
theorem dX6_readText_45 : decode cX6_readText 45 = .ok (.aload_n 0, 1) := by decide +kernel
theorem dX6_readText_46 : decode cX6_readText 46 = .ok (.invokevirtual 58, 3) := by decide +kernel
theorem dX6_readText_49 : decode cX6_readText 49 = .ok (.ifCond .eq 24, 3) := by decide +kernel
theorem dX6_readText_52 : decode cX6_readText 52 = .ok (.aload_n 0, 1) := by decide +kernel
theorem dX6_readText_53 : decode cX6_readText 53 = .ok (.getfield 42, 3) := by decide +kernel
theorem dX6_readText_56 : decode cX6_readText 56 = .ok (.iconst (-1), 1) := by decide +kernel
theorem dX6_readText_57 : decode cX6_readText 57 = .ok (.if_icmp .eq 16, 3) := by decide +kernel
theorem dX6_readText_60 : decode cX6_readText 60 = .ok (.aload_n 0, 1) := by decide +kernel
theorem dX6_readText_61 : decode cX6_readText 61 = .ok (.iconst 3, 1) := by decide +kernel
theorem dX6_readText_62 : decode cX6_readText 62 = .ok (.putfield 39, 3) := by decide +kernel
theorem dX6_readText_65 : decode cX6_readText 65 = .ok (.aload_n 0, 1) := by decide +kernel
theorem dX6_readText_66 : decode cX6_readText 66 = .ok (.aload_n 0, 1) := by decide +kernel
theorem dX6_readText_67 : decode cX6_readText 67 = .ok (.getfield 42, 3) := by decide +kernel
theorem dX6_readText_70 : decode cX6_readText 70 = .ok (.putfield 18, 3) := by decide +kernel
theorem dX6_readText_73 : decode cX6_readText 73 = .ok (.aload_n 0, 1) := by decide +kernel
theorem dX6_readText_74 : decode cX6_readText 74 = .ok (.getfield 39, 3) := by decide +kernel
theorem dX6_readText_77 : decode cX6_readText 77 = .ok (.ireturn, 1) := by decide +kernel
set_option maxRecDepth 20000 in
theorem ggX6_scan_X6_behindBlanks : GoodIn wsX6_scan wsX6_behindBlanks := goodIn_r _ [7] (by decide +kernel) (by decide +kernel)
set_option maxRecDepth 20000 in
theorem gX6_scan_X6_behindBlanks : GoodIn wsX6_scan (va_wsS RX6 61 yX6_behindBlanks wsX6_behindBlanks) := goodIn_app (goodIn_of _ (by decide +kernel)) ggX6_scan_X6_behindBlanks
theorem dX6_scan_0 : decode cX6_scan 0 = .ok (.iconst 0, 1) := by decide +kernel
theorem dX6_scan_1 : decode cX6_scan 1 = .ok (.istore_n 3, 1) := by decide +kernel
theorem dX6_scan_2 : decode cX6_scan 2 = .ok (.iconst 0, 1) := by decide +kernel
theorem dX6_scan_3 : decode cX6_scan 3 = .ok (.istore 4, 2) := by decide +kernel
theorem dX6_scan_5 : decode cX6_scan 5 = .ok (.iload 4, 2) := by decide +kernel
theorem dX6_scan_7 : decode cX6_scan 7 = .ok (.sipush 500, 3) := by decide +kernel
theorem dX6_scan_10 : decode cX6_scan 10 = .ok (.if_icmp .gt 107, 3) := by decide +kernel
theorem dX6_scan_13 : decode cX6_scan 13 = .ok (.aload_n 1, 1) := by decide +kernel
theorem dX6_scan_14 : decode cX6_scan 14 = .ok (.iload_n 2, 1) := by decide +kernel
theorem dX6_scan_15 : decode cX6_scan 15 = .ok (.iload_n 3, 1) := by decide +kernel
theorem dX6_scan_16 : decode cX6_scan 16 = .ok (.invokestatic 61, 3) := by decide +kernel
theorem dX6_scan_19 : decode cX6_scan 19 = .ok (.istore_n 3, 1) := by decide +kernel
theorem dX6_scan_20 : decode cX6_scan 20 = .ok (.aload_n 0, 1) := by decide +kernel
theorem dX6_scan_21 : decode cX6_scan 21 = .ok (.getfield 26, 3) := by decide +kernel
theorem dX6_scan_24 : decode cX6_scan 24 = .ok (.iload 4, 2) := by decide +kernel
theorem dX6_scan_26 : decode cX6_scan 26 = .ok (.iload_n 3, 1) := by decide +kernel
theorem dX6_scan_27 : decode cX6_scan 27 = .ok (.iastore, 1) := by decide +kernel
theorem dX6_scan_28 : decode cX6_scan 28 = .ok (.iload_n 3, 1) := by decide +kernel
theorem dX6_scan_29 : decode cX6_scan 29 = .ok (.iload_n 2, 1) := by decide +kernel
theorem dX6_scan_30 : decode cX6_scan 30 = .ok (.if_icmp .lt 13, 3) := by decide +kernel
theorem dX6_scan_33 : decode cX6_scan 33 = .ok (.aload_n 0, 1) := by decide +kernel
theorem dX6_scan_34 : decode cX6_scan 34 = .ok (.getfield 22, 3) := by decide +kernel
theorem dX6_scan_37 : decode cX6_scan 37 = .ok (.iload 4, 2) := by decide +kernel
theorem dX6_scan_39 : decode cX6_scan 39 = .ok (.bipush 21, 2) := by decide +kernel
theorem dX6_scan_41 : decode cX6_scan 41 = .ok (.iastore, 1) := by decide +kernel
theorem dX6_scan_42 : decode cX6_scan 42 = .ok (.return_, 1) := by decide +kernel
theorem dX6_scan_43 : decode cX6_scan 43 = .ok (.aload_n 1, 1) := by decide +kernel
theorem dX6_scan_44 : decode cX6_scan 44 = .ok (.iload_n 2, 1) := by decide +kernel
theorem dX6_scan_45 : decode cX6_scan 45 = .ok (.iload_n 3, 1) := by decide +kernel
theorem dX6_scan_46 : decode cX6_scan 46 = .ok (.invokestatic 65, 3) := by decide +kernel
theorem dX6_scan_49 : decode cX6_scan 49 = .ok (.istore 5, 2) := by decide +kernel
theorem dX6_scan_51 : decode cX6_scan 51 = .ok (.aload_n 0, 1) := by decide +kernel
theorem dX6_scan_52 : decode cX6_scan 52 = .ok (.getfield 22, 3) := by decide +kernel
theorem dX6_scan_55 : decode cX6_scan 55 = .ok (.iload 4, 2) := by decide +kernel
theorem dX6_scan_57 : decode cX6_scan 57 = .ok (.aload_n 1, 1) := by decide +kernel
theorem dX6_scan_58 : decode cX6_scan 58 = .ok (.iload_n 3, 1) := by decide +kernel
theorem dX6_scan_59 : decode cX6_scan 59 = .ok (.iload 5, 2) := by decide +kernel
theorem dX6_scan_61 : decode cX6_scan 61 = .ok (.invokestatic 68, 3) := by decide +kernel
theorem dX6_scan_64 : decode cX6_scan 64 = .ok (.iastore, 1) := by decide +kernel
theorem dX6_scan_65 : decode cX6_scan 65 = .ok (.aload_n 0, 1) := by decide +kernel
theorem dX6_scan_66 : decode cX6_scan 66 = .ok (.getfield 22, 3) := by decide +kernel
theorem dX6_scan_69 : decode cX6_scan 69 = .ok (.iload 4, 2) := by decide +kernel
theorem dX6_scan_71 : decode cX6_scan 71 = .ok (.iaload, 1) := by decide +kernel
theorem dX6_scan_72 : decode cX6_scan 72 = .ok (.bipush 22, 2) := by decide +kernel
theorem dX6_scan_74 : decode cX6_scan 74 = .ok (.if_icmp .ne 4, 3) := by decide +kernel
theorem dX6_scan_77 : decode cX6_scan 77 = .ok (.return_, 1) := by decide +kernel
theorem dX6_scan_78 : decode cX6_scan 78 = .ok (.aload_n 0, 1) := by decide +kernel
theorem dX6_scan_79 : decode cX6_scan 79 = .ok (.getfield 29, 3) := by decide +kernel
theorem dX6_scan_82 : decode cX6_scan 82 = .ok (.iload 4, 2) := by decide +kernel
theorem dX6_scan_84 : decode cX6_scan 84 = .ok (.aload_n 0, 1) := by decide +kernel
theorem dX6_scan_85 : decode cX6_scan 85 = .ok (.getfield 22, 3) := by decide +kernel
theorem dX6_scan_88 : decode cX6_scan 88 = .ok (.iload 4, 2) := by decide +kernel
theorem dX6_scan_90 : decode cX6_scan 90 = .ok (.iaload, 1) := by decide +kernel
theorem dX6_scan_91 : decode cX6_scan 91 = .ok (.bipush 16, 2) := by decide +kernel
theorem dX6_scan_93 : decode cX6_scan 93 = .ok (.if_icmp .ne 13, 3) := by decide +kernel
theorem dX6_scan_96 : decode cX6_scan 96 = .ok (.aload_n 1, 1) := by decide +kernel
theorem dX6_scan_97 : decode cX6_scan 97 = .ok (.iload_n 3, 1) := by decide +kernel
theorem dX6_scan_98 : decode cX6_scan 98 = .ok (.iload 5, 2) := by decide +kernel
theorem dX6_scan_100 : decode cX6_scan 100 = .ok (.invokestatic 71, 3) := by decide +kernel
theorem dX6_scan_103 : decode cX6_scan 103 = .ok (.goto 4, 3) := by decide +kernel
theorem dX6_scan_106 : decode cX6_scan 106 = .ok (.iconst (-1), 1) := by decide +kernel
theorem dX6_scan_107 : decode cX6_scan 107 = .ok (.iastore, 1) := by decide +kernel
theorem dX6_scan_108 : decode cX6_scan 108 = .ok (.iload 5, 2) := by decide +kernel
theorem dX6_scan_110 : decode cX6_scan 110 = .ok (.istore_n 3, 1) := by decide +kernel
theorem dX6_scan_111 : decode cX6_scan 111 = .ok (.iinc 4 1, 3) := by decide +kernel
theorem dX6_scan_114 : decode cX6_scan 114 = .ok (.goto (-109), 3) := by decide +kernel
theorem dX6_scan_117 : decode cX6_scan 117 = .ok (.return_, 1) := by decide +kernel
theorem dX6_behindBlanks_0 : decode cX6_behindBlanks 0 = .ok (.iload_n 2, 1) := by decide +kernel
theorem dX6_behindBlanks_1 : decode cX6_behindBlanks 1 = .ok (.istore_n 3, 1) := by decide +kernel
theorem dX6_behindBlanks_2 : decode cX6_behindBlanks 2 = .ok (.iload_n 3, 1) := by decide +kernel
theorem dX6_behindBlanks_3 : decode cX6_behindBlanks 3 = .ok (.iload_n 1, 1) := by decide +kernel
theorem dX6_behindBlanks_4 : decode cX6_behindBlanks 4 = .ok (.if_icmp .ge 44, 3) := by decide +kernel
theorem dX6_behindBlanks_7 : decode cX6_behindBlanks 7 = .ok (.aload_n 0, 1) := by decide +kernel
theorem dX6_behindBlanks_8 : decode cX6_behindBlanks 8 = .ok (.iload_n 3, 1) := by decide +kernel
theorem dX6_behindBlanks_9 : decode cX6_behindBlanks 9 = .ok (.baload, 1) := by decide +kernel
theorem dX6_behindBlanks_10 : decode cX6_behindBlanks 10 = .ok (.istore 4, 2) := by decide +kernel
theorem dX6_behindBlanks_12 : decode cX6_behindBlanks 12 = .ok (.iload 4, 2) := by decide +kernel
theorem dX6_behindBlanks_14 : decode cX6_behindBlanks 14 = .ok (.bipush 9, 2) := by decide +kernel
theorem dX6_behindBlanks_16 : decode cX6_behindBlanks 16 = .ok (.if_icmp .eq 26, 3) := by decide +kernel
theorem dX6_behindBlanks_19 : decode cX6_behindBlanks 19 = .ok (.iload 4, 2) := by decide +kernel
theorem dX6_behindBlanks_21 : decode cX6_behindBlanks 21 = .ok (.bipush 10, 2) := by decide +kernel
theorem dX6_behindBlanks_23 : decode cX6_behindBlanks 23 = .ok (.if_icmp .eq 19, 3) := by decide +kernel
theorem dX6_behindBlanks_26 : decode cX6_behindBlanks 26 = .ok (.iload 4, 2) := by decide +kernel
theorem dX6_behindBlanks_28 : decode cX6_behindBlanks 28 = .ok (.bipush 13, 2) := by decide +kernel
theorem dX6_behindBlanks_30 : decode cX6_behindBlanks 30 = .ok (.if_icmp .eq 12, 3) := by decide +kernel
theorem dX6_behindBlanks_33 : decode cX6_behindBlanks 33 = .ok (.iload 4, 2) := by decide +kernel
theorem dX6_behindBlanks_35 : decode cX6_behindBlanks 35 = .ok (.bipush 32, 2) := by decide +kernel
theorem dX6_behindBlanks_37 : decode cX6_behindBlanks 37 = .ok (.if_icmp .eq 5, 3) := by decide +kernel
theorem dX6_behindBlanks_40 : decode cX6_behindBlanks 40 = .ok (.iload_n 3, 1) := by decide +kernel
theorem dX6_behindBlanks_41 : decode cX6_behindBlanks 41 = .ok (.ireturn, 1) := by decide +kernel
theorem dX6_behindBlanks_42 : decode cX6_behindBlanks 42 = .ok (.iinc 3 1, 3) := by decide +kernel
theorem dX6_behindBlanks_45 : decode cX6_behindBlanks 45 = .ok (.goto (-43), 3) := by decide +kernel
theorem dX6_behindBlanks_48 : decode cX6_behindBlanks 48 = .ok (.iload_n 1, 1) := by decide +kernel
theorem dX6_behindBlanks_49 : decode cX6_behindBlanks 49 = .ok (.ireturn, 1) := by decide +kernel
theorem dX6_fail_0 : decode cX6_fail 0 = .ok (.aload_n 0, 1) := by decide +kernel
theorem dX6_fail_1 : decode cX6_fail 1 = .ok (.iload_n 1, 1) := by decide +kernel
theorem dX6_fail_2 : decode cX6_fail 2 = .ok (.putfield 39, 3) := by decide +kernel
theorem dX6_fail_5 : decode cX6_fail 5 = .ok (.aload_n 0, 1) := by decide +kernel
theorem dX6_fail_6 : decode cX6_fail 6 = .ok (.aload_n 0, 1) := by decide +kernel
theorem dX6_fail_7 : decode cX6_fail 7 = .ok (.getfield 26, 3) := by decide +kernel
theorem dX6_fail_10 : decode cX6_fail 10 = .ok (.aload_n 0, 1) := by decide +kernel
theorem dX6_fail_11 : decode cX6_fail 11 = .ok (.getfield 45, 3) := by decide +kernel
theorem dX6_fail_14 : decode cX6_fail 14 = .ok (.iaload, 1) := by decide +kernel
theorem dX6_fail_15 : decode cX6_fail 15 = .ok (.putfield 18, 3) := by decide +kernel
theorem dX6_fail_18 : decode cX6_fail 18 = .ok (.iconst 0, 1) := by decide +kernel
theorem dX6_fail_19 : decode cX6_fail 19 = .ok (.ireturn, 1) := by decide +kernel
set_option maxRecDepth 20000 in
theorem ggX6_take_X6_fail : GoodIn wsX6_take wsX6_fail := goodIn_r _ [7, 8, 9, 2, 10, 11, 12, 13, 14, 15, 16, 17, 18, 19, 20, 21, 22] (by decide +kernel) (by decide +kernel)
set_option maxRecDepth 20000 in
theorem gX6_take_X6_fail : GoodIn wsX6_take (wsV RX6 96 RX6 yX6_fail wsX6_fail) := goodIn_app (goodIn_of _ (by decide +kernel)) ggX6_take_X6_fail
theorem dX6_take_0 : decode cX6_take 0 = .ok (.aload_n 0, 1) := by decide +kernel
theorem dX6_take_1 : decode cX6_take 1 = .ok (.getfield 22, 3) := by decide +kernel
theorem dX6_take_4 : decode cX6_take 4 = .ok (.aload_n 0, 1) := by decide +kernel
theorem dX6_take_5 : decode cX6_take 5 = .ok (.getfield 45, 3) := by decide +kernel
theorem dX6_take_8 : decode cX6_take 8 = .ok (.iaload, 1) := by decide +kernel
theorem dX6_take_9 : decode cX6_take 9 = .ok (.iload_n 1, 1) := by decide +kernel
theorem dX6_take_10 : decode cX6_take 10 = .ok (.if_icmp .eq 9, 3) := by decide +kernel
theorem dX6_take_13 : decode cX6_take 13 = .ok (.aload_n 0, 1) := by decide +kernel
theorem dX6_take_14 : decode cX6_take 14 = .ok (.iconst 1, 1) := by decide +kernel
theorem dX6_take_15 : decode cX6_take 15 = .ok (.invokevirtual 96, 3) := by decide +kernel
theorem dX6_take_18 : decode cX6_take 18 = .ok (.ireturn, 1) := by decide +kernel
theorem dX6_take_19 : decode cX6_take 19 = .ok (.aload_n 0, 1) := by decide +kernel
theorem dX6_take_20 : decode cX6_take 20 = .ok (.getfield 45, 3) := by decide +kernel
theorem dX6_take_23 : decode cX6_take 23 = .ok (.sipush 500, 3) := by decide +kernel
theorem dX6_take_26 : decode cX6_take 26 = .ok (.if_icmp .lt 9, 3) := by decide +kernel
theorem dX6_take_29 : decode cX6_take 29 = .ok (.aload_n 0, 1) := by decide +kernel
theorem dX6_take_30 : decode cX6_take 30 = .ok (.iconst 2, 1) := by decide +kernel
theorem dX6_take_31 : decode cX6_take 31 = .ok (.invokevirtual 96, 3) := by decide +kernel
theorem dX6_take_34 : decode cX6_take 34 = .ok (.ireturn, 1) := by decide +kernel
theorem dX6_take_35 : decode cX6_take 35 = .ok (.aload_n 0, 1) := by decide +kernel
theorem dX6_take_36 : decode cX6_take 36 = .ok (.dup, 1) := by decide +kernel
theorem dX6_take_37 : decode cX6_take 37 = .ok (.getfield 45, 3) := by decide +kernel
theorem dX6_take_40 : decode cX6_take 40 = .ok (.iconst 1, 1) := by decide +kernel
theorem dX6_take_41 : decode cX6_take 41 = .ok (.iadd, 1) := by decide +kernel
theorem dX6_take_42 : decode cX6_take 42 = .ok (.putfield 45, 3) := by decide +kernel
theorem dX6_take_45 : decode cX6_take 45 = .ok (.iconst 1, 1) := by decide +kernel
theorem dX6_take_46 : decode cX6_take 46 = .ok (.ireturn, 1) := by decide +kernel
theorem dX6_readCells_0 : decode cX6_readCells 0 = .ok (.iconst 0, 1) := by decide +kernel
theorem dX6_readCells_1 : decode cX6_readCells 1 = .ok (.istore_n 1, 1) := by decide +kernel
theorem dX6_readCells_2 : decode cX6_readCells 2 = .ok (.iload_n 1, 1) := by decide +kernel
theorem dX6_readCells_3 : decode cX6_readCells 3 = .ok (.sipush 500, 3) := by decide +kernel
theorem dX6_readCells_6 : decode cX6_readCells 6 = .ok (.if_icmp .gt 32, 3) := by decide +kernel
theorem dX6_readCells_9 : decode cX6_readCells 9 = .ok (.aload_n 0, 1) := by decide +kernel
theorem dX6_readCells_10 : decode cX6_readCells 10 = .ok (.getfield 22, 3) := by decide +kernel
theorem dX6_readCells_13 : decode cX6_readCells 13 = .ok (.aload_n 0, 1) := by decide +kernel
theorem dX6_readCells_14 : decode cX6_readCells 14 = .ok (.getfield 45, 3) := by decide +kernel
theorem dX6_readCells_17 : decode cX6_readCells 17 = .ok (.iaload, 1) := by decide +kernel
theorem dX6_readCells_18 : decode cX6_readCells 18 = .ok (.bipush 9, 2) := by decide +kernel
theorem dX6_readCells_20 : decode cX6_readCells 20 = .ok (.if_icmp .ne 18, 3) := by decide +kernel
theorem dX6_readCells_23 : decode cX6_readCells 23 = .ok (.aload_n 0, 1) := by decide +kernel
theorem dX6_readCells_24 : decode cX6_readCells 24 = .ok (.invokevirtual 99, 3) := by decide +kernel
theorem dX6_readCells_27 : decode cX6_readCells 27 = .ok (.ifCond .ne 5, 3) := by decide +kernel
theorem dX6_readCells_30 : decode cX6_readCells 30 = .ok (.iconst 0, 1) := by decide +kernel
theorem dX6_readCells_31 : decode cX6_readCells 31 = .ok (.ireturn, 1) := by decide +kernel
theorem dX6_readCells_32 : decode cX6_readCells 32 = .ok (.iinc 1 1, 3) := by decide +kernel
theorem dX6_readCells_35 : decode cX6_readCells 35 = .ok (.goto (-33), 3) := by decide +kernel
theorem dX6_readCells_38 : decode cX6_readCells 38 = .ok (.iconst 1, 1) := by decide +kernel
theorem dX6_readCells_39 : decode cX6_readCells 39 = .ok (.ireturn, 1) := by decide +kernel
set_option maxRecDepth 20000 in
theorem ggX6_readCores_X6_take : GoodIn wsX6_readCores wsX6_take := goodIn_r _ [9, 1, 2, 10, 11, 12, 8, 13, 14, 15, 16, 122, 123, 124, 125, 126, 127, 128, 129, 130, 131, 132, 133] (by decide +kernel) (by decide +kernel)
set_option maxRecDepth 20000 in
theorem gX6_readCores_X6_take : GoodIn wsX6_readCores (wsV RX6 102 RX6 yX6_take wsX6_take) := goodIn_app (goodIn_of _ (by decide +kernel)) ggX6_readCores_X6_take
set_option maxRecDepth 20000 in
theorem ggX6_readCores_X6_fail : GoodIn wsX6_readCores wsX6_fail := goodIn_r _ [13, 14, 15, 2, 16, 122, 123, 124, 125, 126, 127, 128, 129, 130, 131, 132, 133] (by decide +kernel) (by decide +kernel)
set_option maxRecDepth 20000 in
theorem gX6_readCores_X6_fail : GoodIn wsX6_readCores (wsV RX6 96 RX6 yX6_fail wsX6_fail) := goodIn_app (goodIn_of _ (by decide +kernel)) ggX6_readCores_X6_fail
theorem dX6_readCores_0 : decode cX6_readCores 0 = .ok (.iconst 0, 1) := by decide +kernel
theorem dX6_readCores_1 : decode cX6_readCores 1 = .ok (.istore_n 1, 1) := by decide +kernel
theorem dX6_readCores_2 : decode cX6_readCores 2 = .ok (.iload_n 1, 1) := by decide +kernel
theorem dX6_readCores_3 : decode cX6_readCores 3 = .ok (.iconst 3, 1) := by decide +kernel
theorem dX6_readCores_4 : decode cX6_readCores 4 = .ok (.if_icmp .ge 132, 3) := by decide +kernel
theorem dX6_readCores_7 : decode cX6_readCores 7 = .ok (.iload_n 1, 1) := by decide +kernel
theorem dX6_readCores_8 : decode cX6_readCores 8 = .ok (.ifCond .eq 17, 3) := by decide +kernel
theorem dX6_readCores_11 : decode cX6_readCores 11 = .ok (.aload_n 0, 1) := by decide +kernel
theorem dX6_readCores_12 : decode cX6_readCores 12 = .ok (.getfield 22, 3) := by decide +kernel
theorem dX6_readCores_15 : decode cX6_readCores 15 = .ok (.aload_n 0, 1) := by decide +kernel
theorem dX6_readCores_16 : decode cX6_readCores 16 = .ok (.getfield 45, 3) := by decide +kernel
theorem dX6_readCores_19 : decode cX6_readCores 19 = .ok (.iaload, 1) := by decide +kernel
theorem dX6_readCores_20 : decode cX6_readCores 20 = .ok (.bipush 21, 2) := by decide +kernel
theorem dX6_readCores_22 : decode cX6_readCores 22 = .ok (.if_icmp .eq 114, 3) := by decide +kernel
theorem dX6_readCores_25 : decode cX6_readCores 25 = .ok (.aload_n 0, 1) := by decide +kernel
theorem dX6_readCores_26 : decode cX6_readCores 26 = .ok (.getfield 12, 3) := by decide +kernel
theorem dX6_readCores_29 : decode cX6_readCores 29 = .ok (.iload_n 1, 1) := by decide +kernel
theorem dX6_readCores_30 : decode cX6_readCores 30 = .ok (.iconst 1, 1) := by decide +kernel
theorem dX6_readCores_31 : decode cX6_readCores 31 = .ok (.iadd, 1) := by decide +kernel
theorem dX6_readCores_32 : decode cX6_readCores 32 = .ok (.putfield 125, 3) := by decide +kernel
theorem dX6_readCores_35 : decode cX6_readCores 35 = .ok (.aload_n 0, 1) := by decide +kernel
theorem dX6_readCores_36 : decode cX6_readCores 36 = .ok (.bipush 10, 2) := by decide +kernel
theorem dX6_readCores_38 : decode cX6_readCores 38 = .ok (.invokevirtual 102, 3) := by decide +kernel
theorem dX6_readCores_41 : decode cX6_readCores 41 = .ok (.ifCond .eq 12, 3) := by decide +kernel
theorem dX6_readCores_44 : decode cX6_readCores 44 = .ok (.aload_n 0, 1) := by decide +kernel
theorem dX6_readCores_45 : decode cX6_readCores 45 = .ok (.bipush 17, 2) := by decide +kernel
theorem dX6_readCores_47 : decode cX6_readCores 47 = .ok (.invokevirtual 102, 3) := by decide +kernel
theorem dX6_readCores_50 : decode cX6_readCores 50 = .ok (.ifCond .ne 5, 3) := by decide +kernel
theorem dX6_readCores_53 : decode cX6_readCores 53 = .ok (.iconst 0, 1) := by decide +kernel
theorem dX6_readCores_54 : decode cX6_readCores 54 = .ok (.ireturn, 1) := by decide +kernel
theorem dX6_readCores_55 : decode cX6_readCores 55 = .ok (.iconst 0, 1) := by decide +kernel
theorem dX6_readCores_56 : decode cX6_readCores 56 = .ok (.istore_n 2, 1) := by decide +kernel
theorem dX6_readCores_57 : decode cX6_readCores 57 = .ok (.iload_n 2, 1) := by decide +kernel
theorem dX6_readCores_58 : decode cX6_readCores 58 = .ok (.bipush 6, 2) := by decide +kernel
theorem dX6_readCores_60 : decode cX6_readCores 60 = .ok (.if_icmp .ge 34, 3) := by decide +kernel
theorem dX6_readCores_63 : decode cX6_readCores 63 = .ok (.aload_n 0, 1) := by decide +kernel
theorem dX6_readCores_64 : decode cX6_readCores 64 = .ok (.getfield 22, 3) := by decide +kernel
theorem dX6_readCores_67 : decode cX6_readCores 67 = .ok (.aload_n 0, 1) := by decide +kernel
theorem dX6_readCores_68 : decode cX6_readCores 68 = .ok (.getfield 45, 3) := by decide +kernel
theorem dX6_readCores_71 : decode cX6_readCores 71 = .ok (.iaload, 1) := by decide +kernel
theorem dX6_readCores_72 : decode cX6_readCores 72 = .ok (.bipush 8, 2) := by decide +kernel
theorem dX6_readCores_74 : decode cX6_readCores 74 = .ok (.if_icmp .gt 20, 3) := by decide +kernel
theorem dX6_readCores_77 : decode cX6_readCores 77 = .ok (.aload_n 0, 1) := by decide +kernel
theorem dX6_readCores_78 : decode cX6_readCores 78 = .ok (.iload_n 1, 1) := by decide +kernel
theorem dX6_readCores_79 : decode cX6_readCores 79 = .ok (.iload_n 2, 1) := by decide +kernel
theorem dX6_readCores_80 : decode cX6_readCores 80 = .ok (.invokevirtual 128, 3) := by decide +kernel
theorem dX6_readCores_83 : decode cX6_readCores 83 = .ok (.ifCond .ne 5, 3) := by decide +kernel
theorem dX6_readCores_86 : decode cX6_readCores 86 = .ok (.iconst 0, 1) := by decide +kernel
theorem dX6_readCores_87 : decode cX6_readCores 87 = .ok (.ireturn, 1) := by decide +kernel
theorem dX6_readCores_88 : decode cX6_readCores 88 = .ok (.iinc 2 1, 3) := by decide +kernel
theorem dX6_readCores_91 : decode cX6_readCores 91 = .ok (.goto (-34), 3) := by decide +kernel
theorem dX6_readCores_94 : decode cX6_readCores 94 = .ok (.aload_n 0, 1) := by decide +kernel
theorem dX6_readCores_95 : decode cX6_readCores 95 = .ok (.getfield 22, 3) := by decide +kernel
theorem dX6_readCores_98 : decode cX6_readCores 98 = .ok (.aload_n 0, 1) := by decide +kernel
theorem dX6_readCores_99 : decode cX6_readCores 99 = .ok (.getfield 45, 3) := by decide +kernel
theorem dX6_readCores_102 : decode cX6_readCores 102 = .ok (.iaload, 1) := by decide +kernel
theorem dX6_readCores_103 : decode cX6_readCores 103 = .ok (.bipush 8, 2) := by decide +kernel
theorem dX6_readCores_105 : decode cX6_readCores 105 = .ok (.if_icmp .gt 9, 3) := by decide +kernel
theorem dX6_readCores_108 : decode cX6_readCores 108 = .ok (.aload_n 0, 1) := by decide +kernel
theorem dX6_readCores_109 : decode cX6_readCores 109 = .ok (.iconst 2, 1) := by decide +kernel
theorem dX6_readCores_110 : decode cX6_readCores 110 = .ok (.invokevirtual 96, 3) := by decide +kernel
theorem dX6_readCores_113 : decode cX6_readCores 113 = .ok (.ireturn, 1) := by decide +kernel
theorem dX6_readCores_114 : decode cX6_readCores 114 = .ok (.aload_n 0, 1) := by decide +kernel
theorem dX6_readCores_115 : decode cX6_readCores 115 = .ok (.bipush 11, 2) := by decide +kernel
theorem dX6_readCores_117 : decode cX6_readCores 117 = .ok (.invokevirtual 102, 3) := by decide +kernel
theorem dX6_readCores_120 : decode cX6_readCores 120 = .ok (.ifCond .ne 5, 3) := by decide +kernel
theorem dX6_readCores_123 : decode cX6_readCores 123 = .ok (.iconst 0, 1) := by decide +kernel
theorem dX6_readCores_124 : decode cX6_readCores 124 = .ok (.ireturn, 1) := by decide +kernel
theorem dX6_readCores_125 : decode cX6_readCores 125 = .ok (.aload_n 0, 1) := by decide +kernel
theorem dX6_readCores_126 : decode cX6_readCores 126 = .ok (.iload_n 1, 1) := by decide +kernel
theorem dX6_readCores_127 : decode cX6_readCores 127 = .ok (.invokevirtual 132, 3) := by decide +kernel
theorem dX6_readCores_130 : decode cX6_readCores 130 = .ok (.iinc 1 1, 3) := by decide +kernel
theorem dX6_readCores_133 : decode cX6_readCores 133 = .ok (.goto (-131), 3) := by decide +kernel
theorem dX6_readCores_136 : decode cX6_readCores 136 = .ok (.aload_n 0, 1) := by decide +kernel
theorem dX6_readCores_137 : decode cX6_readCores 137 = .ok (.getfield 22, 3) := by decide +kernel
theorem dX6_readCores_140 : decode cX6_readCores 140 = .ok (.aload_n 0, 1) := by decide +kernel
theorem dX6_readCores_141 : decode cX6_readCores 141 = .ok (.getfield 45, 3) := by decide +kernel
theorem dX6_readCores_144 : decode cX6_readCores 144 = .ok (.iaload, 1) := by decide +kernel
theorem dX6_readCores_145 : decode cX6_readCores 145 = .ok (.bipush 21, 2) := by decide +kernel
theorem dX6_readCores_147 : decode cX6_readCores 147 = .ok (.if_icmp .ne 5, 3) := by decide +kernel
theorem dX6_readCores_150 : decode cX6_readCores 150 = .ok (.iconst 1, 1) := by decide +kernel
theorem dX6_readCores_151 : decode cX6_readCores 151 = .ok (.ireturn, 1) := by decide +kernel
theorem dX6_readCores_152 : decode cX6_readCores 152 = .ok (.aload_n 0, 1) := by decide +kernel
theorem dX6_readCores_153 : decode cX6_readCores 153 = .ok (.aload_n 0, 1) := by decide +kernel
theorem dX6_readCores_154 : decode cX6_readCores 154 = .ok (.getfield 22, 3) := by decide +kernel
theorem dX6_readCores_157 : decode cX6_readCores 157 = .ok (.aload_n 0, 1) := by decide +kernel
theorem dX6_readCores_158 : decode cX6_readCores 158 = .ok (.getfield 45, 3) := by decide +kernel
theorem dX6_readCores_161 : decode cX6_readCores 161 = .ok (.iaload, 1) := by decide +kernel
theorem dX6_readCores_162 : decode cX6_readCores 162 = .ok (.bipush 10, 2) := by decide +kernel
theorem dX6_readCores_164 : decode cX6_readCores 164 = .ok (.if_icmp .ne 7, 3) := by decide +kernel
theorem dX6_readCores_167 : decode cX6_readCores 167 = .ok (.iconst 2, 1) := by decide +kernel
theorem dX6_readCores_168 : decode cX6_readCores 168 = .ok (.goto 4, 3) := by decide +kernel
theorem dX6_readCores_171 : decode cX6_readCores 171 = .ok (.iconst 1, 1) := by decide +kernel
theorem dX6_readCores_172 : decode cX6_readCores 172 = .ok (.invokevirtual 96, 3) := by decide +kernel
theorem dX6_readCores_175 : decode cX6_readCores 175 = .ok (.ireturn, 1) := by decide +kernel
theorem dX7_init_0 : decode cX7_init 0 = .ok (.aload_n 0, 1) := by decide +kernel
theorem dX7_init_1 : decode cX7_init 1 = .ok (.invokespecial 5, 3) := by decide +kernel
theorem dX7_init_4 : decode cX7_init 4 = .ok (.aload_n 0, 1) := by decide +kernel
theorem dX7_init_5 : decode cX7_init 5 = .ok (.bipush 34, 2) := by decide +kernel
theorem dX7_init_7 : decode cX7_init 7 = .ok (.newarray .int, 2) := by decide +kernel
theorem dX7_init_9 : decode cX7_init 9 = .ok (.putfield 11, 3) := by decide +kernel
theorem dX7_init_12 : decode cX7_init 12 = .ok (.return_, 1) := by decide +kernel
set_option maxRecDepth 20000 in
theorem ggX8_init_X6_init : GoodIn wsX8_init wsX6_init := goodIn_r _ [33, 34, 2, 3, 35, 12, 13, 36, 37, 38, 39, 40, 41, 42, 43, 44, 45, 46, 47, 48, 101, 102, 103, 104, 89, 90, 91, 92, 93, 94, 95, 96, 97, 98, 99, 100] (by decide +kernel) (by decide +kernel)
set_option maxRecDepth 20000 in
theorem gX8_init_X6_init_n15 : GoodIn wsX8_init (wsX6_init) := ggX8_init_X6_init
set_option maxRecDepth 20000 in
theorem ggX8_init_X4_init : GoodIn wsX8_init wsX4_init := goodIn_r _ [44, 45, 2, 3, 38, 46, 47, 48, 101, 102, 103, 104] (by decide +kernel) (by decide +kernel)
set_option maxRecDepth 20000 in
theorem gX8_init_X4_init_n26 : GoodIn wsX8_init (wsX4_init) := ggX8_init_X4_init
set_option maxRecDepth 20000 in
theorem ggX8_init_X3_init : GoodIn wsX8_init wsX3_init := goodIn_r _ [50, 51, 2, 3, 52, 53, 54, 55, 38, 56, 57, 58, 59, 60, 128, 105, 106, 107, 108, 109] (by decide +kernel) (by decide +kernel)
set_option maxRecDepth 20000 in
theorem gX8_init_X3_init_n33 : GoodIn wsX8_init (wsX3_init) := ggX8_init_X3_init
set_option maxRecDepth 20000 in
theorem ggX8_init_X2_init : GoodIn wsX8_init wsX2_init := goodIn_r _ [62, 63, 2, 3, 38, 64, 110, 111, 112, 113, 114] (by decide +kernel) (by decide +kernel)
set_option maxRecDepth 20000 in
theorem gX8_init_X2_init_n40 : GoodIn wsX8_init (wsX2_init) := ggX8_init_X2_init
set_option maxRecDepth 20000 in
theorem ggX8_init_X5_init : GoodIn wsX8_init wsX5_init := goodIn_r _ [66, 67, 2, 3, 38, 68, 115, 116, 117, 118, 119, 120, 121] (by decide +kernel) (by decide +kernel)
set_option maxRecDepth 20000 in
theorem gX8_init_X5_init_n50 : GoodIn wsX8_init (wsX5_init) := ggX8_init_X5_init
set_option maxRecDepth 20000 in
theorem ggX8_init_X0_init : GoodIn wsX8_init wsX0_init := goodIn_r _ [70, 71, 2, 3, 72, 12, 13, 73, 74, 38, 75, 76, 43, 44, 45, 46, 47, 48, 101, 102, 103, 104, 122, 123, 124, 125, 126, 127] (by decide +kernel) (by decide +kernel)
set_option maxRecDepth 20000 in
theorem gX8_init_X0_init_n57 : GoodIn wsX8_init (wsX0_init) := ggX8_init_X0_init
theorem dX8_init_0 : decode cX8_init 0 = .ok (.aload_n 0, 1) := by decide +kernel
theorem dX8_init_1 : decode cX8_init 1 = .ok (.invokespecial 3, 3) := by decide +kernel
theorem dX8_init_4 : decode cX8_init 4 = .ok (.aload_n 0, 1) := by decide +kernel
theorem dX8_init_5 : decode cX8_init 5 = .ok (.sipush 4000, 3) := by decide +kernel
theorem dX8_init_8 : decode cX8_init 8 = .ok (.newarray .byte, 2) := by decide +kernel
theorem dX8_init_10 : decode cX8_init 10 = .ok (.putfield 9, 3) := by decide +kernel
theorem dX8_init_13 : decode cX8_init 13 = .ok (.aload_n 0, 1) := by decide +kernel
theorem dX8_init_14 : decode cX8_init 14 = .ok (.new 13, 3) := by decide +kernel
theorem dX8_init_17 : decode cX8_init 17 = .ok (.dup, 1) := by decide +kernel
theorem dX8_init_18 : decode cX8_init 18 = .ok (.invokespecial 15, 3) := by decide +kernel
theorem dX8_init_21 : decode cX8_init 21 = .ok (.putfield 16, 3) := by decide +kernel
theorem dX8_init_24 : decode cX8_init 24 = .ok (.aload_n 0, 1) := by decide +kernel
theorem dX8_init_25 : decode cX8_init 25 = .ok (.iconst (-1), 1) := by decide +kernel
theorem dX8_init_26 : decode cX8_init 26 = .ok (.putfield 20, 3) := by decide +kernel
theorem dX8_init_29 : decode cX8_init 29 = .ok (.aload_n 0, 1) := by decide +kernel
theorem dX8_init_30 : decode cX8_init 30 = .ok (.new 24, 3) := by decide +kernel
theorem dX8_init_33 : decode cX8_init 33 = .ok (.dup, 1) := by decide +kernel
theorem dX8_init_34 : decode cX8_init 34 = .ok (.invokespecial 26, 3) := by decide +kernel
theorem dX8_init_37 : decode cX8_init 37 = .ok (.putfield 27, 3) := by decide +kernel
theorem dX8_init_40 : decode cX8_init 40 = .ok (.aload_n 0, 1) := by decide +kernel
theorem dX8_init_41 : decode cX8_init 41 = .ok (.new 31, 3) := by decide +kernel
theorem dX8_init_44 : decode cX8_init 44 = .ok (.dup, 1) := by decide +kernel
theorem dX8_init_45 : decode cX8_init 45 = .ok (.invokespecial 33, 3) := by decide +kernel
theorem dX8_init_48 : decode cX8_init 48 = .ok (.putfield 34, 3) := by decide +kernel
theorem dX8_init_51 : decode cX8_init 51 = .ok (.aload_n 0, 1) := by decide +kernel
theorem dX8_init_52 : decode cX8_init 52 = .ok (.new 38, 3) := by decide +kernel
theorem dX8_init_55 : decode cX8_init 55 = .ok (.dup, 1) := by decide +kernel
theorem dX8_init_56 : decode cX8_init 56 = .ok (.invokespecial 40, 3) := by decide +kernel
theorem dX8_init_59 : decode cX8_init 59 = .ok (.putfield 41, 3) := by decide +kernel
theorem dX8_init_62 : decode cX8_init 62 = .ok (.aload_n 0, 1) := by decide +kernel
theorem dX8_init_63 : decode cX8_init 63 = .ok (.new 38, 3) := by decide +kernel
theorem dX8_init_66 : decode cX8_init 66 = .ok (.dup, 1) := by decide +kernel
theorem dX8_init_67 : decode cX8_init 67 = .ok (.invokespecial 40, 3) := by decide +kernel
theorem dX8_init_70 : decode cX8_init 70 = .ok (.putfield 45, 3) := by decide +kernel
theorem dX8_init_73 : decode cX8_init 73 = .ok (.aload_n 0, 1) := by decide +kernel
theorem dX8_init_74 : decode cX8_init 74 = .ok (.new 48, 3) := by decide +kernel
theorem dX8_init_77 : decode cX8_init 77 = .ok (.dup, 1) := by decide +kernel
theorem dX8_init_78 : decode cX8_init 78 = .ok (.invokespecial 50, 3) := by decide +kernel
theorem dX8_init_81 : decode cX8_init 81 = .ok (.putfield 51, 3) := by decide +kernel
theorem dX8_init_84 : decode cX8_init 84 = .ok (.aload_n 0, 1) := by decide +kernel
theorem dX8_init_85 : decode cX8_init 85 = .ok (.new 55, 3) := by decide +kernel
theorem dX8_init_88 : decode cX8_init 88 = .ok (.dup, 1) := by decide +kernel
theorem dX8_init_89 : decode cX8_init 89 = .ok (.invokespecial 57, 3) := by decide +kernel
theorem dX8_init_92 : decode cX8_init 92 = .ok (.putfield 58, 3) := by decide +kernel
theorem dX8_init_95 : decode cX8_init 95 = .ok (.return_, 1) := by decide +kernel
set_option maxRecDepth 20000 in
theorem ggX8_feed_X8_feedWord : GoodIn wsX8_feed wsX8_feedWord := goodIn_r _ [6, 1, 7, 8, 9, 10, 11, 12, 13, 14, 15, 16, 17, 18, 19] (by decide +kernel) (by decide +kernel)
set_option maxRecDepth 20000 in
theorem gX8_feed_X8_feedWord : GoodIn wsX8_feed (wsV RX8 65 RX8 yX8_feedWord wsX8_feedWord) := goodIn_app (goodIn_of _ (by decide +kernel)) ggX8_feed_X8_feedWord
theorem dX8_feed_0 : decode cX8_feed 0 = .ok (.aload_n 0, 1) := by decide +kernel
theorem dX8_feed_1 : decode cX8_feed 1 = .ok (.getfield 62, 3) := by decide +kernel
theorem dX8_feed_4 : decode cX8_feed 4 = .ok (.bipush 20, 2) := by decide +kernel
theorem dX8_feed_6 : decode cX8_feed 6 = .ok (.iadd, 1) := by decide +kernel
theorem dX8_feed_7 : decode cX8_feed 7 = .ok (.sipush 4000, 3) := by decide +kernel
theorem dX8_feed_10 : decode cX8_feed 10 = .ok (.if_icmp .le 5, 3) := by decide +kernel
theorem dX8_feed_13 : decode cX8_feed 13 = .ok (.iconst (-1), 1) := by decide +kernel
theorem dX8_feed_14 : decode cX8_feed 14 = .ok (.ireturn, 1) := by decide +kernel
theorem dX8_feed_15 : decode cX8_feed 15 = .ok (.aload_n 0, 1) := by decide +kernel
theorem dX8_feed_16 : decode cX8_feed 16 = .ok (.iload_n 1, 1) := by decide +kernel
theorem dX8_feed_17 : decode cX8_feed 17 = .ok (.invokevirtual 65, 3) := by decide +kernel
theorem dX8_feed_20 : decode cX8_feed 20 = .ok (.aload_n 0, 1) := by decide +kernel
theorem dX8_feed_21 : decode cX8_feed 21 = .ok (.iload_n 2, 1) := by decide +kernel
theorem dX8_feed_22 : decode cX8_feed 22 = .ok (.invokevirtual 65, 3) := by decide +kernel
theorem dX8_feed_25 : decode cX8_feed 25 = .ok (.aload_n 0, 1) := by decide +kernel
theorem dX8_feed_26 : decode cX8_feed 26 = .ok (.iload_n 3, 1) := by decide +kernel
theorem dX8_feed_27 : decode cX8_feed 27 = .ok (.invokevirtual 65, 3) := by decide +kernel
theorem dX8_feed_30 : decode cX8_feed 30 = .ok (.aload_n 0, 1) := by decide +kernel
theorem dX8_feed_31 : decode cX8_feed 31 = .ok (.iload 4, 2) := by decide +kernel
theorem dX8_feed_33 : decode cX8_feed 33 = .ok (.invokevirtual 65, 3) := by decide +kernel
theorem dX8_feed_36 : decode cX8_feed 36 = .ok (.aload_n 0, 1) := by decide +kernel
theorem dX8_feed_37 : decode cX8_feed 37 = .ok (.iload 5, 2) := by decide +kernel
theorem dX8_feed_39 : decode cX8_feed 39 = .ok (.invokevirtual 65, 3) := by decide +kernel
theorem dX8_feed_42 : decode cX8_feed 42 = .ok (.aload_n 0, 1) := by decide +kernel
theorem dX8_feed_43 : decode cX8_feed 43 = .ok (.getfield 62, 3) := by decide +kernel
theorem dX8_feed_46 : decode cX8_feed 46 = .ok (.ireturn, 1) := by decide +kernel
theorem dX8_feedWord_0 : decode cX8_feedWord 0 = .ok (.bipush 24, 2) := by decide +kernel
theorem dX8_feedWord_2 : decode cX8_feedWord 2 = .ok (.istore_n 2, 1) := by decide +kernel
theorem dX8_feedWord_3 : decode cX8_feedWord 3 = .ok (.iload_n 2, 1) := by decide +kernel
theorem dX8_feedWord_4 : decode cX8_feedWord 4 = .ok (.ifCond .lt 42, 3) := by decide +kernel
theorem dX8_feedWord_7 : decode cX8_feedWord 7 = .ok (.aload_n 0, 1) := by decide +kernel
theorem dX8_feedWord_8 : decode cX8_feedWord 8 = .ok (.getfield 62, 3) := by decide +kernel
theorem dX8_feedWord_11 : decode cX8_feedWord 11 = .ok (.sipush 4000, 3) := by decide +kernel
theorem dX8_feedWord_14 : decode cX8_feedWord 14 = .ok (.if_icmp .ge 32, 3) := by decide +kernel
theorem dX8_feedWord_17 : decode cX8_feedWord 17 = .ok (.aload_n 0, 1) := by decide +kernel
theorem dX8_feedWord_18 : decode cX8_feedWord 18 = .ok (.getfield 9, 3) := by decide +kernel
theorem dX8_feedWord_21 : decode cX8_feedWord 21 = .ok (.aload_n 0, 1) := by decide +kernel
theorem dX8_feedWord_22 : decode cX8_feedWord 22 = .ok (.getfield 62, 3) := by decide +kernel
theorem dX8_feedWord_25 : decode cX8_feedWord 25 = .ok (.iload_n 1, 1) := by decide +kernel
theorem dX8_feedWord_26 : decode cX8_feedWord 26 = .ok (.iload_n 2, 1) := by decide +kernel
theorem dX8_feedWord_27 : decode cX8_feedWord 27 = .ok (.ishr, 1) := by decide +kernel
theorem dX8_feedWord_28 : decode cX8_feedWord 28 = .ok (.i2b, 1) := by decide +kernel
theorem dX8_feedWord_29 : decode cX8_feedWord 29 = .ok (.bastore, 1) := by decide +kernel
theorem dX8_feedWord_30 : decode cX8_feedWord 30 = .ok (.aload_n 0, 1) := by decide +kernel
theorem dX8_feedWord_31 : decode cX8_feedWord 31 = .ok (.dup, 1) := by decide +kernel
theorem dX8_feedWord_32 : decode cX8_feedWord 32 = .ok (.getfield 62, 3) := by decide +kernel
theorem dX8_feedWord_35 : decode cX8_feedWord 35 = .ok (.iconst 1, 1) := by decide +kernel
theorem dX8_feedWord_36 : decode cX8_feedWord 36 = .ok (.iadd, 1) := by decide +kernel
theorem dX8_feedWord_37 : decode cX8_feedWord 37 = .ok (.putfield 62, 3) := by decide +kernel
theorem dX8_feedWord_40 : decode cX8_feedWord 40 = .ok (.iinc 2 (-8), 3) := by decide +kernel
theorem dX8_feedWord_43 : decode cX8_feedWord 43 = .ok (.goto (-40), 3) := by decide +kernel
theorem dX8_feedWord_46 : decode cX8_feedWord 46 = .ok (.return_, 1) := by decide +kernel
theorem dX8_back_0 : decode cX8_back 0 = .ok (.iload_n 1, 1) := by decide +kernel
theorem dX8_back_1 : decode cX8_back 1 = .ok (.ifCond .lt 11, 3) := by decide +kernel
theorem dX8_back_4 : decode cX8_back 4 = .ok (.iload_n 1, 1) := by decide +kernel
theorem dX8_back_5 : decode cX8_back 5 = .ok (.aload_n 0, 1) := by decide +kernel
theorem dX8_back_6 : decode cX8_back 6 = .ok (.getfield 62, 3) := by decide +kernel
theorem dX8_back_9 : decode cX8_back 9 = .ok (.if_icmp .le 5, 3) := by decide +kernel
theorem dX8_back_12 : decode cX8_back 12 = .ok (.iconst (-1), 1) := by decide +kernel
theorem dX8_back_13 : decode cX8_back 13 = .ok (.ireturn, 1) := by decide +kernel
theorem dX8_back_14 : decode cX8_back 14 = .ok (.aload_n 0, 1) := by decide +kernel
theorem dX8_back_15 : decode cX8_back 15 = .ok (.dup, 1) := by decide +kernel
theorem dX8_back_16 : decode cX8_back 16 = .ok (.getfield 62, 3) := by decide +kernel
theorem dX8_back_19 : decode cX8_back 19 = .ok (.iload_n 1, 1) := by decide +kernel
theorem dX8_back_20 : decode cX8_back 20 = .ok (.isub, 1) := by decide +kernel
theorem dX8_back_21 : decode cX8_back 21 = .ok (.putfield 62, 3) := by decide +kernel
theorem dX8_back_24 : decode cX8_back 24 = .ok (.aload_n 0, 1) := by decide +kernel
theorem dX8_back_25 : decode cX8_back 25 = .ok (.getfield 62, 3) := by decide +kernel
theorem dX8_back_28 : decode cX8_back 28 = .ok (.ireturn, 1) := by decide +kernel
set_option maxRecDepth 20000 in
theorem ggX8_read_X6_readText : GoodIn wsX8_read wsX6_readText := goodIn_r _ [13, 14, 15, 16, 17, 18, 19, 20, 21, 22, 12, 23, 24, 25, 26, 27, 28, 29, 30, 31, 32, 33, 34, 35, 36, 37, 38, 39, 40, 41, 42, 43, 44, 45, 46, 47, 48, 49, 50, 51, 52, 53, 54, 55, 56, 57, 58, 59, 60, 61, 62, 63, 64, 65, 66, 67, 68, 69, 70, 71, 72, 73, 74, 75, 76, 77, 78, 79, 80, 81, 82, 83, 84, 85, 86, 87, 88, 89, 90, 91, 92, 93, 94, 95, 96, 97, 98, 99, 100, 101, 102, 103, 104, 105, 106, 107, 108, 109, 110, 111, 112, 113, 114, 115, 116, 117, 118, 119, 120, 121, 122, 123, 124, 125, 126, 127, 128, 129, 130, 131, 132, 133, 134, 135, 136, 137, 138, 139, 140, 141, 142, 143, 144, 145, 146, 147, 148, 149, 150, 151, 152, 153, 154, 155, 156, 157, 158, 159, 160, 161, 162, 163, 164, 165, 166, 167, 168, 169, 170, 171, 172, 173, 174, 175, 176, 177, 178, 179, 180, 181, 182, 183, 184, 185, 218, 219, 220, 221, 222, 223, 224, 225, 226, 227, 228, 229, 230, 231, 232, 233] (by decide +kernel) (by decide +kernel)
set_option maxRecDepth 20000 in
theorem gX8_read_X6_readText : GoodIn wsX8_read (wsV RX8 69 RX6 yX6_readText wsX6_readText) := goodIn_app (goodIn_of _ (by decide +kernel)) ggX8_read_X6_readText
theorem dX8_read_0 : decode cX8_read 0 = .ok (.aload_n 0, 1) := by decide +kernel
theorem dX8_read_1 : decode cX8_read 1 = .ok (.getfield 16, 3) := by decide +kernel
theorem dX8_read_4 : decode cX8_read 4 = .ok (.aload_n 0, 1) := by decide +kernel
theorem dX8_read_5 : decode cX8_read 5 = .ok (.getfield 9, 3) := by decide +kernel
theorem dX8_read_8 : decode cX8_read 8 = .ok (.aload_n 0, 1) := by decide +kernel
theorem dX8_read_9 : decode cX8_read 9 = .ok (.getfield 62, 3) := by decide +kernel
theorem dX8_read_12 : decode cX8_read 12 = .ok (.invokevirtual 69, 3) := by decide +kernel
theorem dX8_read_15 : decode cX8_read 15 = .ok (.istore_n 1, 1) := by decide +kernel
theorem dX8_read_16 : decode cX8_read 16 = .ok (.aload_n 0, 1) := by decide +kernel
theorem dX8_read_17 : decode cX8_read 17 = .ok (.aload_n 0, 1) := by decide +kernel
theorem dX8_read_18 : decode cX8_read 18 = .ok (.getfield 16, 3) := by decide +kernel
theorem dX8_read_21 : decode cX8_read 21 = .ok (.getfield 73, 3) := by decide +kernel
theorem dX8_read_24 : decode cX8_read 24 = .ok (.putfield 20, 3) := by decide +kernel
theorem dX8_read_27 : decode cX8_read 27 = .ok (.aload_n 0, 1) := by decide +kernel
theorem dX8_read_28 : decode cX8_read 28 = .ok (.iconst 0, 1) := by decide +kernel
theorem dX8_read_29 : decode cX8_read 29 = .ok (.putfield 62, 3) := by decide +kernel
theorem dX8_read_32 : decode cX8_read 32 = .ok (.iload_n 1, 1) := by decide +kernel
theorem dX8_read_33 : decode cX8_read 33 = .ok (.ifCond .ne 36, 3) := by decide +kernel
theorem dX8_read_36 : decode cX8_read 36 = .ok (.aload_n 0, 1) := by decide +kernel
theorem dX8_read_37 : decode cX8_read 37 = .ok (.getfield 27, 3) := by decide +kernel
theorem dX8_read_40 : decode cX8_read 40 = .ok (.astore_n 2, 1) := by decide +kernel
theorem dX8_read_41 : decode cX8_read 41 = .ok (.aload_n 0, 1) := by decide +kernel
theorem dX8_read_42 : decode cX8_read 42 = .ok (.aload_n 0, 1) := by decide +kernel
theorem dX8_read_43 : decode cX8_read 43 = .ok (.getfield 16, 3) := by decide +kernel
theorem dX8_read_46 : decode cX8_read 46 = .ok (.getfield 76, 3) := by decide +kernel
theorem dX8_read_49 : decode cX8_read 49 = .ok (.putfield 27, 3) := by decide +kernel
theorem dX8_read_52 : decode cX8_read 52 = .ok (.aload_n 0, 1) := by decide +kernel
theorem dX8_read_53 : decode cX8_read 53 = .ok (.getfield 16, 3) := by decide +kernel
theorem dX8_read_56 : decode cX8_read 56 = .ok (.aload_n 2, 1) := by decide +kernel
theorem dX8_read_57 : decode cX8_read 57 = .ok (.putfield 76, 3) := by decide +kernel
theorem dX8_read_60 : decode cX8_read 60 = .ok (.aload_n 0, 1) := by decide +kernel
theorem dX8_read_61 : decode cX8_read 61 = .ok (.iconst 1, 1) := by decide +kernel
theorem dX8_read_62 : decode cX8_read 62 = .ok (.putfield 79, 3) := by decide +kernel
theorem dX8_read_65 : decode cX8_read 65 = .ok (.aload_n 0, 1) := by decide +kernel
theorem dX8_read_66 : decode cX8_read 66 = .ok (.invokevirtual 83, 3) := by decide +kernel
theorem dX8_read_69 : decode cX8_read 69 = .ok (.iload_n 1, 1) := by decide +kernel
theorem dX8_read_70 : decode cX8_read 70 = .ok (.ireturn, 1) := by decide +kernel
theorem dX8_place_0 : decode cX8_place 0 = .ok (.aload_n 0, 1) := by decide +kernel
theorem dX8_place_1 : decode cX8_place 1 = .ok (.getfield 20, 3) := by decide +kernel
theorem dX8_place_4 : decode cX8_place 4 = .ok (.ireturn, 1) := by decide +kernel
set_option maxRecDepth 20000 in
theorem ggX8_ins_X8_hasCore : GoodIn wsX8_ins wsX8_hasCore := goodIn_r _ [7, 8, 1, 9, 19, 20, 21, 22, 23, 24, 25, 26, 27, 28, 29, 30, 31, 32, 33, 34] (by decide +kernel) (by decide +kernel)
set_option maxRecDepth 20000 in
theorem gX8_ins_X8_hasCore : GoodIn wsX8_ins (wsV RX8 96 RX8 yX8_hasCore wsX8_hasCore) := goodIn_app (goodIn_of _ (by decide +kernel)) ggX8_ins_X8_hasCore
theorem dX8_ins_0 : decode cX8_ins 0 = .ok (.aload_n 0, 1) := by decide +kernel
theorem dX8_ins_1 : decode cX8_ins 1 = .ok (.iload_n 1, 1) := by decide +kernel
theorem dX8_ins_2 : decode cX8_ins 2 = .ok (.invokevirtual 96, 3) := by decide +kernel
theorem dX8_ins_5 : decode cX8_ins 5 = .ok (.ifCond .eq 30, 3) := by decide +kernel
theorem dX8_ins_8 : decode cX8_ins 8 = .ok (.iload_n 2, 1) := by decide +kernel
theorem dX8_ins_9 : decode cX8_ins 9 = .ok (.ifCond .lt 26, 3) := by decide +kernel
theorem dX8_ins_12 : decode cX8_ins 12 = .ok (.iload_n 2, 1) := by decide +kernel
theorem dX8_ins_13 : decode cX8_ins 13 = .ok (.aload_n 0, 1) := by decide +kernel
theorem dX8_ins_14 : decode cX8_ins 14 = .ok (.getfield 27, 3) := by decide +kernel
theorem dX8_ins_17 : decode cX8_ins 17 = .ok (.getfield 100, 3) := by decide +kernel
theorem dX8_ins_20 : decode cX8_ins 20 = .ok (.iload_n 1, 1) := by decide +kernel
theorem dX8_ins_21 : decode cX8_ins 21 = .ok (.iaload, 1) := by decide +kernel
theorem dX8_ins_22 : decode cX8_ins 22 = .ok (.if_icmp .ge 13, 3) := by decide +kernel
theorem dX8_ins_25 : decode cX8_ins 25 = .ok (.iload_n 3, 1) := by decide +kernel
theorem dX8_ins_26 : decode cX8_ins 26 = .ok (.ifCond .lt 9, 3) := by decide +kernel
theorem dX8_ins_29 : decode cX8_ins 29 = .ok (.iload_n 3, 1) := by decide +kernel
theorem dX8_ins_30 : decode cX8_ins 30 = .ok (.bipush 8, 2) := by decide +kernel
theorem dX8_ins_32 : decode cX8_ins 32 = .ok (.if_icmp .lt 5, 3) := by decide +kernel
theorem dX8_ins_35 : decode cX8_ins 35 = .ok (.iconst (-1), 1) := by decide +kernel
theorem dX8_ins_36 : decode cX8_ins 36 = .ok (.ireturn, 1) := by decide +kernel
theorem dX8_ins_37 : decode cX8_ins 37 = .ok (.aload_n 0, 1) := by decide +kernel
theorem dX8_ins_38 : decode cX8_ins 38 = .ok (.getfield 27, 3) := by decide +kernel
theorem dX8_ins_41 : decode cX8_ins 41 = .ok (.iload_n 1, 1) := by decide +kernel
theorem dX8_ins_42 : decode cX8_ins 42 = .ok (.iload_n 2, 1) := by decide +kernel
theorem dX8_ins_43 : decode cX8_ins 43 = .ok (.iload_n 3, 1) := by decide +kernel
theorem dX8_ins_44 : decode cX8_ins 44 = .ok (.invokevirtual 104, 3) := by decide +kernel
theorem dX8_ins_47 : decode cX8_ins 47 = .ok (.ireturn, 1) := by decide +kernel
theorem dX8_hasCore_0 : decode cX8_hasCore 0 = .ok (.aload_n 0, 1) := by decide +kernel
theorem dX8_hasCore_1 : decode cX8_hasCore 1 = .ok (.getfield 79, 3) := by decide +kernel
theorem dX8_hasCore_4 : decode cX8_hasCore 4 = .ok (.ifCond .eq 22, 3) := by decide +kernel
theorem dX8_hasCore_7 : decode cX8_hasCore 7 = .ok (.iload_n 1, 1) := by decide +kernel
theorem dX8_hasCore_8 : decode cX8_hasCore 8 = .ok (.ifCond .lt 18, 3) := by decide +kernel
theorem dX8_hasCore_11 : decode cX8_hasCore 11 = .ok (.iload_n 1, 1) := by decide +kernel
theorem dX8_hasCore_12 : decode cX8_hasCore 12 = .ok (.aload_n 0, 1) := by decide +kernel
theorem dX8_hasCore_13 : decode cX8_hasCore 13 = .ok (.getfield 27, 3) := by decide +kernel
theorem dX8_hasCore_16 : decode cX8_hasCore 16 = .ok (.getfield 108, 3) := by decide +kernel
theorem dX8_hasCore_19 : decode cX8_hasCore 19 = .ok (.if_icmp .ge 7, 3) := by decide +kernel
theorem dX8_hasCore_22 : decode cX8_hasCore 22 = .ok (.iconst 1, 1) := by decide +kernel
theorem dX8_hasCore_23 : decode cX8_hasCore 23 = .ok (.goto 4, 3) := by decide +kernel
theorem dX8_hasCore_26 : decode cX8_hasCore 26 = .ok (.iconst 0, 1) := by decide +kernel
theorem dX8_hasCore_27 : decode cX8_hasCore 27 = .ok (.ireturn, 1) := by decide +kernel
theorem dX8_begin_0 : decode cX8_begin 0 = .ok (.aload_n 0, 1) := by decide +kernel
theorem dX8_begin_1 : decode cX8_begin 1 = .ok (.getfield 79, 3) := by decide +kernel
theorem dX8_begin_4 : decode cX8_begin 4 = .ok (.ifCond .eq 10, 3) := by decide +kernel
theorem dX8_begin_7 : decode cX8_begin 7 = .ok (.iload_n 1, 1) := by decide +kernel
theorem dX8_begin_8 : decode cX8_begin 8 = .ok (.invokestatic 111, 3) := by decide +kernel
theorem dX8_begin_11 : decode cX8_begin 11 = .ok (.ifCond .ne 5, 3) := by decide +kernel
theorem dX8_begin_14 : decode cX8_begin 14 = .ok (.iconst 0, 1) := by decide +kernel
theorem dX8_begin_15 : decode cX8_begin 15 = .ok (.ireturn, 1) := by decide +kernel
theorem dX8_begin_16 : decode cX8_begin 16 = .ok (.aload_n 0, 1) := by decide +kernel
theorem dX8_begin_17 : decode cX8_begin 17 = .ok (.getfield 34, 3) := by decide +kernel
theorem dX8_begin_20 : decode cX8_begin 20 = .ok (.aload_n 0, 1) := by decide +kernel
theorem dX8_begin_21 : decode cX8_begin 21 = .ok (.getfield 27, 3) := by decide +kernel
theorem dX8_begin_24 : decode cX8_begin 24 = .ok (.iload_n 1, 1) := by decide +kernel
theorem dX8_begin_25 : decode cX8_begin 25 = .ok (.invokevirtual 114, 3) := by decide +kernel
theorem dX8_begin_28 : decode cX8_begin 28 = .ok (.iconst 1, 1) := by decide +kernel
theorem dX8_begin_29 : decode cX8_begin 29 = .ok (.ireturn, 1) := by decide +kernel
theorem dX8_step_0 : decode cX8_step 0 = .ok (.aload_n 0, 1) := by decide +kernel
theorem dX8_step_1 : decode cX8_step 1 = .ok (.getfield 34, 3) := by decide +kernel
theorem dX8_step_4 : decode cX8_step 4 = .ok (.getfield 86, 3) := by decide +kernel
theorem dX8_step_7 : decode cX8_step 7 = .ok (.ifCond .eq 22, 3) := by decide +kernel
theorem dX8_step_10 : decode cX8_step 10 = .ok (.aload_n 0, 1) := by decide +kernel
theorem dX8_step_11 : decode cX8_step 11 = .ok (.getfield 34, 3) := by decide +kernel
theorem dX8_step_14 : decode cX8_step 14 = .ok (.aload_n 0, 1) := by decide +kernel
theorem dX8_step_15 : decode cX8_step 15 = .ok (.getfield 27, 3) := by decide +kernel
theorem dX8_step_18 : decode cX8_step 18 = .ok (.iload_n 1, 1) := by decide +kernel
theorem dX8_step_19 : decode cX8_step 19 = .ok (.invokevirtual 118, 3) := by decide +kernel
theorem dX8_step_22 : decode cX8_step 22 = .ok (.ifCond .eq 7, 3) := by decide +kernel
theorem dX8_step_25 : decode cX8_step 25 = .ok (.iconst 1, 1) := by decide +kernel
theorem dX8_step_26 : decode cX8_step 26 = .ok (.goto 4, 3) := by decide +kernel
theorem dX8_step_29 : decode cX8_step 29 = .ok (.iconst 0, 1) := by decide +kernel
theorem dX8_step_30 : decode cX8_step 30 = .ok (.ireturn, 1) := by decide +kernel
theorem dX8_undo_0 : decode cX8_undo 0 = .ok (.aload_n 0, 1) := by decide +kernel
theorem dX8_undo_1 : decode cX8_undo 1 = .ok (.getfield 34, 3) := by decide +kernel
theorem dX8_undo_4 : decode cX8_undo 4 = .ok (.getfield 86, 3) := by decide +kernel
theorem dX8_undo_7 : decode cX8_undo 7 = .ok (.ifCond .eq 21, 3) := by decide +kernel
theorem dX8_undo_10 : decode cX8_undo 10 = .ok (.aload_n 0, 1) := by decide +kernel
theorem dX8_undo_11 : decode cX8_undo 11 = .ok (.getfield 34, 3) := by decide +kernel
theorem dX8_undo_14 : decode cX8_undo 14 = .ok (.aload_n 0, 1) := by decide +kernel
theorem dX8_undo_15 : decode cX8_undo 15 = .ok (.getfield 27, 3) := by decide +kernel
theorem dX8_undo_18 : decode cX8_undo 18 = .ok (.invokevirtual 122, 3) := by decide +kernel
theorem dX8_undo_21 : decode cX8_undo 21 = .ok (.ifCond .eq 7, 3) := by decide +kernel
theorem dX8_undo_24 : decode cX8_undo 24 = .ok (.iconst 1, 1) := by decide +kernel
theorem dX8_undo_25 : decode cX8_undo 25 = .ok (.goto 4, 3) := by decide +kernel
theorem dX8_undo_28 : decode cX8_undo 28 = .ok (.iconst 0, 1) := by decide +kernel
theorem dX8_undo_29 : decode cX8_undo 29 = .ok (.ireturn, 1) := by decide +kernel
set_option maxRecDepth 20000 in
theorem ggX8_register_X8_hasCore : GoodIn wsX8_register wsX8_hasCore := goodIn_r _ [9, 10, 11, 12, 13, 14, 15, 16, 17, 18, 19, 20, 21, 22, 23, 24, 31, 32, 33, 34] (by decide +kernel) (by decide +kernel)
set_option maxRecDepth 20000 in
theorem gX8_register_X8_hasCore : GoodIn wsX8_register (wsV RX8 96 RX8 yX8_hasCore wsX8_hasCore) := goodIn_app (goodIn_of _ (by decide +kernel)) ggX8_register_X8_hasCore
theorem dX8_register_0 : decode cX8_register 0 = .ok (.aload_n 0, 1) := by decide +kernel
theorem dX8_register_1 : decode cX8_register 1 = .ok (.getfield 34, 3) := by decide +kernel
theorem dX8_register_4 : decode cX8_register 4 = .ok (.getfield 86, 3) := by decide +kernel
theorem dX8_register_7 : decode cX8_register 7 = .ok (.ifCond .eq 20, 3) := by decide +kernel
theorem dX8_register_10 : decode cX8_register 10 = .ok (.aload_n 0, 1) := by decide +kernel
theorem dX8_register_11 : decode cX8_register 11 = .ok (.iload_n 1, 1) := by decide +kernel
theorem dX8_register_12 : decode cX8_register 12 = .ok (.invokevirtual 96, 3) := by decide +kernel
theorem dX8_register_15 : decode cX8_register 15 = .ok (.ifCond .eq 12, 3) := by decide +kernel
theorem dX8_register_18 : decode cX8_register 18 = .ok (.iload_n 2, 1) := by decide +kernel
theorem dX8_register_19 : decode cX8_register 19 = .ok (.ifCond .lt 8, 3) := by decide +kernel
theorem dX8_register_22 : decode cX8_register 22 = .ok (.iload_n 2, 1) := by decide +kernel
theorem dX8_register_23 : decode cX8_register 23 = .ok (.iconst 3, 1) := by decide +kernel
theorem dX8_register_24 : decode cX8_register 24 = .ok (.if_icmp .lt 5, 3) := by decide +kernel
theorem dX8_register_27 : decode cX8_register 27 = .ok (.iconst 0, 1) := by decide +kernel
theorem dX8_register_28 : decode cX8_register 28 = .ok (.ireturn, 1) := by decide +kernel
theorem dX8_register_29 : decode cX8_register 29 = .ok (.aload_n 0, 1) := by decide +kernel
theorem dX8_register_30 : decode cX8_register 30 = .ok (.getfield 34, 3) := by decide +kernel
theorem dX8_register_33 : decode cX8_register 33 = .ok (.getfield 126, 3) := by decide +kernel
theorem dX8_register_36 : decode cX8_register 36 = .ok (.getfield 130, 3) := by decide +kernel
theorem dX8_register_39 : decode cX8_register 39 = .ok (.iload_n 1, 1) := by decide +kernel
theorem dX8_register_40 : decode cX8_register 40 = .ok (.iconst 3, 1) := by decide +kernel
theorem dX8_register_41 : decode cX8_register 41 = .ok (.imul, 1) := by decide +kernel
theorem dX8_register_42 : decode cX8_register 42 = .ok (.iload_n 2, 1) := by decide +kernel
theorem dX8_register_43 : decode cX8_register 43 = .ok (.iadd, 1) := by decide +kernel
theorem dX8_register_44 : decode cX8_register 44 = .ok (.iaload, 1) := by decide +kernel
theorem dX8_register_45 : decode cX8_register 45 = .ok (.ireturn, 1) := by decide +kernel
theorem dX8_memory_0 : decode cX8_memory 0 = .ok (.aload_n 0, 1) := by decide +kernel
theorem dX8_memory_1 : decode cX8_memory 1 = .ok (.getfield 34, 3) := by decide +kernel
theorem dX8_memory_4 : decode cX8_memory 4 = .ok (.getfield 86, 3) := by decide +kernel
theorem dX8_memory_7 : decode cX8_memory 7 = .ok (.ifCond .eq 12, 3) := by decide +kernel
theorem dX8_memory_10 : decode cX8_memory 10 = .ok (.iload_n 1, 1) := by decide +kernel
theorem dX8_memory_11 : decode cX8_memory 11 = .ok (.ifCond .lt 8, 3) := by decide +kernel
theorem dX8_memory_14 : decode cX8_memory 14 = .ok (.iload_n 1, 1) := by decide +kernel
theorem dX8_memory_15 : decode cX8_memory 15 = .ok (.iconst 4, 1) := by decide +kernel
theorem dX8_memory_16 : decode cX8_memory 16 = .ok (.if_icmp .lt 5, 3) := by decide +kernel
theorem dX8_memory_19 : decode cX8_memory 19 = .ok (.iconst 0, 1) := by decide +kernel
theorem dX8_memory_20 : decode cX8_memory 20 = .ok (.ireturn, 1) := by decide +kernel
theorem dX8_memory_21 : decode cX8_memory 21 = .ok (.aload_n 0, 1) := by decide +kernel
theorem dX8_memory_22 : decode cX8_memory 22 = .ok (.getfield 34, 3) := by decide +kernel
theorem dX8_memory_25 : decode cX8_memory 25 = .ok (.getfield 126, 3) := by decide +kernel
theorem dX8_memory_28 : decode cX8_memory 28 = .ok (.getfield 130, 3) := by decide +kernel
theorem dX8_memory_31 : decode cX8_memory 31 = .ok (.bipush 9, 2) := by decide +kernel
theorem dX8_memory_33 : decode cX8_memory 33 = .ok (.iload_n 1, 1) := by decide +kernel
theorem dX8_memory_34 : decode cX8_memory 34 = .ok (.iadd, 1) := by decide +kernel
theorem dX8_memory_35 : decode cX8_memory 35 = .ok (.iaload, 1) := by decide +kernel
theorem dX8_memory_36 : decode cX8_memory 36 = .ok (.ireturn, 1) := by decide +kernel
set_option maxRecDepth 20000 in
theorem ggX8_next_X8_hasCore : GoodIn wsX8_next wsX8_hasCore := goodIn_r _ [8, 9, 10, 11, 18, 19, 20, 21, 22, 23, 24, 25, 26, 27, 28, 29, 35, 36, 37, 38] (by decide +kernel) (by decide +kernel)
set_option maxRecDepth 20000 in
theorem gX8_next_X8_hasCore : GoodIn wsX8_next (wsV RX8 96 RX8 yX8_hasCore wsX8_hasCore) := goodIn_app (goodIn_of _ (by decide +kernel)) ggX8_next_X8_hasCore
theorem dX8_next_0 : decode cX8_next 0 = .ok (.aload_n 0, 1) := by decide +kernel
theorem dX8_next_1 : decode cX8_next 1 = .ok (.getfield 34, 3) := by decide +kernel
theorem dX8_next_4 : decode cX8_next 4 = .ok (.getfield 86, 3) := by decide +kernel
theorem dX8_next_7 : decode cX8_next 7 = .ok (.ifCond .eq 25, 3) := by decide +kernel
theorem dX8_next_10 : decode cX8_next 10 = .ok (.aload_n 0, 1) := by decide +kernel
theorem dX8_next_11 : decode cX8_next 11 = .ok (.iload_n 1, 1) := by decide +kernel
theorem dX8_next_12 : decode cX8_next 12 = .ok (.invokevirtual 96, 3) := by decide +kernel
theorem dX8_next_15 : decode cX8_next 15 = .ok (.ifCond .eq 17, 3) := by decide +kernel
theorem dX8_next_18 : decode cX8_next 18 = .ok (.aload_n 0, 1) := by decide +kernel
theorem dX8_next_19 : decode cX8_next 19 = .ok (.getfield 34, 3) := by decide +kernel
theorem dX8_next_22 : decode cX8_next 22 = .ok (.getfield 126, 3) := by decide +kernel
theorem dX8_next_25 : decode cX8_next 25 = .ok (.iload_n 1, 1) := by decide +kernel
theorem dX8_next_26 : decode cX8_next 26 = .ok (.invokevirtual 135, 3) := by decide +kernel
theorem dX8_next_29 : decode cX8_next 29 = .ok (.goto 4, 3) := by decide +kernel
theorem dX8_next_32 : decode cX8_next 32 = .ok (.iconst (-1), 1) := by decide +kernel
theorem dX8_next_33 : decode cX8_next 33 = .ok (.ireturn, 1) := by decide +kernel
set_option maxRecDepth 20000 in
theorem ggX8_store_X8_hasCore : GoodIn wsX8_store wsX8_hasCore := goodIn_r _ [8, 9, 10, 11, 26, 27, 28, 29, 30, 31, 32, 33, 34, 35, 36, 37, 43, 44, 45, 46] (by decide +kernel) (by decide +kernel)
set_option maxRecDepth 20000 in
theorem gX8_store_X8_hasCore : GoodIn wsX8_store (wsV RX8 96 RX8 yX8_hasCore wsX8_hasCore) := goodIn_app (goodIn_of _ (by decide +kernel)) ggX8_store_X8_hasCore
theorem dX8_store_0 : decode cX8_store 0 = .ok (.aload_n 0, 1) := by decide +kernel
theorem dX8_store_1 : decode cX8_store 1 = .ok (.getfield 34, 3) := by decide +kernel
theorem dX8_store_4 : decode cX8_store 4 = .ok (.getfield 86, 3) := by decide +kernel
theorem dX8_store_7 : decode cX8_store 7 = .ok (.ifCond .eq 30, 3) := by decide +kernel
theorem dX8_store_10 : decode cX8_store 10 = .ok (.aload_n 0, 1) := by decide +kernel
theorem dX8_store_11 : decode cX8_store 11 = .ok (.iload_n 1, 1) := by decide +kernel
theorem dX8_store_12 : decode cX8_store 12 = .ok (.invokevirtual 96, 3) := by decide +kernel
theorem dX8_store_15 : decode cX8_store 15 = .ok (.ifCond .eq 22, 3) := by decide +kernel
theorem dX8_store_18 : decode cX8_store 18 = .ok (.iload_n 2, 1) := by decide +kernel
theorem dX8_store_19 : decode cX8_store 19 = .ok (.ifCond .lt 18, 3) := by decide +kernel
theorem dX8_store_22 : decode cX8_store 22 = .ok (.iload_n 2, 1) := by decide +kernel
theorem dX8_store_23 : decode cX8_store 23 = .ok (.aload_n 0, 1) := by decide +kernel
theorem dX8_store_24 : decode cX8_store 24 = .ok (.getfield 34, 3) := by decide +kernel
theorem dX8_store_27 : decode cX8_store 27 = .ok (.getfield 126, 3) := by decide +kernel
theorem dX8_store_30 : decode cX8_store 30 = .ok (.iload_n 1, 1) := by decide +kernel
theorem dX8_store_31 : decode cX8_store 31 = .ok (.invokevirtual 139, 3) := by decide +kernel
theorem dX8_store_34 : decode cX8_store 34 = .ok (.if_icmp .lt 5, 3) := by decide +kernel
theorem dX8_store_37 : decode cX8_store 37 = .ok (.iconst (-1), 1) := by decide +kernel
theorem dX8_store_38 : decode cX8_store 38 = .ok (.ireturn, 1) := by decide +kernel
theorem dX8_store_39 : decode cX8_store 39 = .ok (.iload_n 3, 1) := by decide +kernel
theorem dX8_store_40 : decode cX8_store 40 = .ok (.ifCond .ne 16, 3) := by decide +kernel
theorem dX8_store_43 : decode cX8_store 43 = .ok (.aload_n 0, 1) := by decide +kernel
theorem dX8_store_44 : decode cX8_store 44 = .ok (.getfield 34, 3) := by decide +kernel
theorem dX8_store_47 : decode cX8_store 47 = .ok (.getfield 126, 3) := by decide +kernel
theorem dX8_store_50 : decode cX8_store 50 = .ok (.iload_n 1, 1) := by decide +kernel
theorem dX8_store_51 : decode cX8_store 51 = .ok (.iload_n 2, 1) := by decide +kernel
theorem dX8_store_52 : decode cX8_store 52 = .ok (.invokevirtual 142, 3) := by decide +kernel
theorem dX8_store_55 : decode cX8_store 55 = .ok (.ireturn, 1) := by decide +kernel
theorem dX8_store_56 : decode cX8_store 56 = .ok (.iload_n 3, 1) := by decide +kernel
theorem dX8_store_57 : decode cX8_store 57 = .ok (.iconst 1, 1) := by decide +kernel
theorem dX8_store_58 : decode cX8_store 58 = .ok (.if_icmp .ne 18, 3) := by decide +kernel
theorem dX8_store_61 : decode cX8_store 61 = .ok (.aload_n 0, 1) := by decide +kernel
theorem dX8_store_62 : decode cX8_store 62 = .ok (.getfield 34, 3) := by decide +kernel
theorem dX8_store_65 : decode cX8_store 65 = .ok (.getfield 126, 3) := by decide +kernel
theorem dX8_store_68 : decode cX8_store 68 = .ok (.iload_n 1, 1) := by decide +kernel
theorem dX8_store_69 : decode cX8_store 69 = .ok (.iload_n 2, 1) := by decide +kernel
theorem dX8_store_70 : decode cX8_store 70 = .ok (.invokevirtual 146, 3) := by decide +kernel
theorem dX8_store_73 : decode cX8_store 73 = .ok (.goto 4, 3) := by decide +kernel
theorem dX8_store_76 : decode cX8_store 76 = .ok (.iconst (-1), 1) := by decide +kernel
theorem dX8_store_77 : decode cX8_store 77 = .ok (.ireturn, 1) := by decide +kernel
theorem dX8_outcomes_0 : decode cX8_outcomes 0 = .ok (.aload_n 0, 1) := by decide +kernel
theorem dX8_outcomes_1 : decode cX8_outcomes 1 = .ok (.getfield 79, 3) := by decide +kernel
theorem dX8_outcomes_4 : decode cX8_outcomes 4 = .ok (.ifCond .eq 10, 3) := by decide +kernel
theorem dX8_outcomes_7 : decode cX8_outcomes 7 = .ok (.iload_n 1, 1) := by decide +kernel
theorem dX8_outcomes_8 : decode cX8_outcomes 8 = .ok (.invokestatic 111, 3) := by decide +kernel
theorem dX8_outcomes_11 : decode cX8_outcomes 11 = .ok (.ifCond .ne 5, 3) := by decide +kernel
theorem dX8_outcomes_14 : decode cX8_outcomes 14 = .ok (.iconst (-1), 1) := by decide +kernel
theorem dX8_outcomes_15 : decode cX8_outcomes 15 = .ok (.ireturn, 1) := by decide +kernel
theorem dX8_outcomes_16 : decode cX8_outcomes 16 = .ok (.aload_n 0, 1) := by decide +kernel
theorem dX8_outcomes_17 : decode cX8_outcomes 17 = .ok (.iload_n 1, 1) := by decide +kernel
theorem dX8_outcomes_18 : decode cX8_outcomes 18 = .ok (.invokevirtual 149, 3) := by decide +kernel
theorem dX8_outcomes_21 : decode cX8_outcomes 21 = .ok (.astore_n 2, 1) := by decide +kernel
theorem dX8_outcomes_22 : decode cX8_outcomes 22 = .ok (.aload_n 2, 1) := by decide +kernel
theorem dX8_outcomes_23 : decode cX8_outcomes 23 = .ok (.getfield 153, 3) := by decide +kernel
theorem dX8_outcomes_26 : decode cX8_outcomes 26 = .ok (.ifCond .eq 8, 3) := by decide +kernel
theorem dX8_outcomes_29 : decode cX8_outcomes 29 = .ok (.bipush (-2), 2) := by decide +kernel
theorem dX8_outcomes_31 : decode cX8_outcomes 31 = .ok (.goto 7, 3) := by decide +kernel
theorem dX8_outcomes_34 : decode cX8_outcomes 34 = .ok (.aload_n 2, 1) := by decide +kernel
theorem dX8_outcomes_35 : decode cX8_outcomes 35 = .ok (.getfield 156, 3) := by decide +kernel
theorem dX8_outcomes_38 : decode cX8_outcomes 38 = .ok (.ireturn, 1) := by decide +kernel
theorem dX8_outcome_0 : decode cX8_outcome 0 = .ok (.aload_n 0, 1) := by decide +kernel
theorem dX8_outcome_1 : decode cX8_outcome 1 = .ok (.getfield 79, 3) := by decide +kernel
theorem dX8_outcome_4 : decode cX8_outcome 4 = .ok (.ifCond .eq 20, 3) := by decide +kernel
theorem dX8_outcome_7 : decode cX8_outcome 7 = .ok (.iload_n 1, 1) := by decide +kernel
theorem dX8_outcome_8 : decode cX8_outcome 8 = .ok (.invokestatic 111, 3) := by decide +kernel
theorem dX8_outcome_11 : decode cX8_outcome 11 = .ok (.ifCond .eq 13, 3) := by decide +kernel
theorem dX8_outcome_14 : decode cX8_outcome 14 = .ok (.iload_n 3, 1) := by decide +kernel
theorem dX8_outcome_15 : decode cX8_outcome 15 = .ok (.ifCond .lt 9, 3) := by decide +kernel
theorem dX8_outcome_18 : decode cX8_outcome 18 = .ok (.iload_n 3, 1) := by decide +kernel
theorem dX8_outcome_19 : decode cX8_outcome 19 = .ok (.bipush 13, 2) := by decide +kernel
theorem dX8_outcome_21 : decode cX8_outcome 21 = .ok (.if_icmp .lt 5, 3) := by decide +kernel
theorem dX8_outcome_24 : decode cX8_outcome 24 = .ok (.iconst 0, 1) := by decide +kernel
theorem dX8_outcome_25 : decode cX8_outcome 25 = .ok (.ireturn, 1) := by decide +kernel
theorem dX8_outcome_26 : decode cX8_outcome 26 = .ok (.aload_n 0, 1) := by decide +kernel
theorem dX8_outcome_27 : decode cX8_outcome 27 = .ok (.iload_n 1, 1) := by decide +kernel
theorem dX8_outcome_28 : decode cX8_outcome 28 = .ok (.invokevirtual 149, 3) := by decide +kernel
theorem dX8_outcome_31 : decode cX8_outcome 31 = .ok (.astore 4, 2) := by decide +kernel
theorem dX8_outcome_33 : decode cX8_outcome 33 = .ok (.aload 4, 2) := by decide +kernel
theorem dX8_outcome_35 : decode cX8_outcome 35 = .ok (.iload_n 2, 1) := by decide +kernel
theorem dX8_outcome_36 : decode cX8_outcome 36 = .ok (.invokevirtual 159, 3) := by decide +kernel
theorem dX8_outcome_39 : decode cX8_outcome 39 = .ok (.ifCond .eq 13, 3) := by decide +kernel
theorem dX8_outcome_42 : decode cX8_outcome 42 = .ok (.aload 4, 2) := by decide +kernel
theorem dX8_outcome_44 : decode cX8_outcome 44 = .ok (.iload_n 2, 1) := by decide +kernel
theorem dX8_outcome_45 : decode cX8_outcome 45 = .ok (.iload_n 3, 1) := by decide +kernel
theorem dX8_outcome_46 : decode cX8_outcome 46 = .ok (.invokevirtual 162, 3) := by decide +kernel
theorem dX8_outcome_49 : decode cX8_outcome 49 = .ok (.goto 4, 3) := by decide +kernel
theorem dX8_outcome_52 : decode cX8_outcome 52 = .ok (.iconst 0, 1) := by decide +kernel
theorem dX8_outcome_53 : decode cX8_outcome 53 = .ok (.ireturn, 1) := by decide +kernel
theorem dX8_schedule_0 : decode cX8_schedule 0 = .ok (.aload_n 0, 1) := by decide +kernel
theorem dX8_schedule_1 : decode cX8_schedule 1 = .ok (.getfield 79, 3) := by decide +kernel
theorem dX8_schedule_4 : decode cX8_schedule 4 = .ok (.ifCond .eq 10, 3) := by decide +kernel
theorem dX8_schedule_7 : decode cX8_schedule 7 = .ok (.iload_n 1, 1) := by decide +kernel
theorem dX8_schedule_8 : decode cX8_schedule 8 = .ok (.invokestatic 111, 3) := by decide +kernel
theorem dX8_schedule_11 : decode cX8_schedule 11 = .ok (.ifCond .ne 5, 3) := by decide +kernel
theorem dX8_schedule_14 : decode cX8_schedule 14 = .ok (.iconst (-1), 1) := by decide +kernel
theorem dX8_schedule_15 : decode cX8_schedule 15 = .ok (.ireturn, 1) := by decide +kernel
theorem dX8_schedule_16 : decode cX8_schedule 16 = .ok (.aload_n 0, 1) := by decide +kernel
theorem dX8_schedule_17 : decode cX8_schedule 17 = .ok (.iload_n 1, 1) := by decide +kernel
theorem dX8_schedule_18 : decode cX8_schedule 18 = .ok (.invokevirtual 149, 3) := by decide +kernel
theorem dX8_schedule_21 : decode cX8_schedule 21 = .ok (.astore 4, 2) := by decide +kernel
theorem dX8_schedule_23 : decode cX8_schedule 23 = .ok (.aload 4, 2) := by decide +kernel
theorem dX8_schedule_25 : decode cX8_schedule 25 = .ok (.iload_n 2, 1) := by decide +kernel
theorem dX8_schedule_26 : decode cX8_schedule 26 = .ok (.invokevirtual 159, 3) := by decide +kernel
theorem dX8_schedule_29 : decode cX8_schedule 29 = .ok (.ifCond .eq 13, 3) := by decide +kernel
theorem dX8_schedule_32 : decode cX8_schedule 32 = .ok (.aload 4, 2) := by decide +kernel
theorem dX8_schedule_34 : decode cX8_schedule 34 = .ok (.iload_n 2, 1) := by decide +kernel
theorem dX8_schedule_35 : decode cX8_schedule 35 = .ok (.iload_n 3, 1) := by decide +kernel
theorem dX8_schedule_36 : decode cX8_schedule 36 = .ok (.invokevirtual 165, 3) := by decide +kernel
theorem dX8_schedule_39 : decode cX8_schedule 39 = .ok (.goto 4, 3) := by decide +kernel
theorem dX8_schedule_42 : decode cX8_schedule 42 = .ok (.iconst (-1), 1) := by decide +kernel
theorem dX8_schedule_43 : decode cX8_schedule 43 = .ok (.ireturn, 1) := by decide +kernel
theorem dX8_more_0 : decode cX8_more 0 = .ok (.aload_n 0, 1) := by decide +kernel
theorem dX8_more_1 : decode cX8_more 1 = .ok (.getfield 79, 3) := by decide +kernel
theorem dX8_more_4 : decode cX8_more 4 = .ok (.ifCond .ne 5, 3) := by decide +kernel
theorem dX8_more_7 : decode cX8_more 7 = .ok (.iconst (-1), 1) := by decide +kernel
theorem dX8_more_8 : decode cX8_more 8 = .ok (.ireturn, 1) := by decide +kernel
theorem dX8_more_9 : decode cX8_more 9 = .ok (.aload_n 0, 1) := by decide +kernel
theorem dX8_more_10 : decode cX8_more 10 = .ok (.iconst 1, 1) := by decide +kernel
theorem dX8_more_11 : decode cX8_more 11 = .ok (.invokevirtual 149, 3) := by decide +kernel
theorem dX8_more_14 : decode cX8_more 14 = .ok (.astore_n 2, 1) := by decide +kernel
theorem dX8_more_15 : decode cX8_more 15 = .ok (.aload_n 0, 1) := by decide +kernel
theorem dX8_more_16 : decode cX8_more 16 = .ok (.iconst 0, 1) := by decide +kernel
theorem dX8_more_17 : decode cX8_more 17 = .ok (.invokevirtual 149, 3) := by decide +kernel
theorem dX8_more_20 : decode cX8_more 20 = .ok (.astore_n 3, 1) := by decide +kernel
theorem dX8_more_21 : decode cX8_more 21 = .ok (.aload_n 2, 1) := by decide +kernel
theorem dX8_more_22 : decode cX8_more 22 = .ok (.getfield 153, 3) := by decide +kernel
theorem dX8_more_25 : decode cX8_more 25 = .ok (.ifCond .ne 10, 3) := by decide +kernel
theorem dX8_more_28 : decode cX8_more 28 = .ok (.aload_n 3, 1) := by decide +kernel
theorem dX8_more_29 : decode cX8_more 29 = .ok (.getfield 153, 3) := by decide +kernel
theorem dX8_more_32 : decode cX8_more 32 = .ok (.ifCond .eq 6, 3) := by decide +kernel
theorem dX8_more_35 : decode cX8_more 35 = .ok (.bipush (-2), 2) := by decide +kernel
theorem dX8_more_37 : decode cX8_more 37 = .ok (.ireturn, 1) := by decide +kernel
theorem dX8_more_38 : decode cX8_more 38 = .ok (.aload_n 2, 1) := by decide +kernel
theorem dX8_more_39 : decode cX8_more 39 = .ok (.aload_n 3, 1) := by decide +kernel
theorem dX8_more_40 : decode cX8_more 40 = .ok (.iload_n 1, 1) := by decide +kernel
theorem dX8_more_41 : decode cX8_more 41 = .ok (.invokevirtual 168, 3) := by decide +kernel
theorem dX8_more_44 : decode cX8_more 44 = .ok (.ireturn, 1) := by decide +kernel
theorem dX8_race_0 : decode cX8_race 0 = .ok (.aload_n 0, 1) := by decide +kernel
theorem dX8_race_1 : decode cX8_race 1 = .ok (.getfield 79, 3) := by decide +kernel
theorem dX8_race_4 : decode cX8_race 4 = .ok (.ifCond .ne 5, 3) := by decide +kernel
theorem dX8_race_7 : decode cX8_race 7 = .ok (.iconst (-1), 1) := by decide +kernel
theorem dX8_race_8 : decode cX8_race 8 = .ok (.ireturn, 1) := by decide +kernel
theorem dX8_race_9 : decode cX8_race 9 = .ok (.aload_n 0, 1) := by decide +kernel
theorem dX8_race_10 : decode cX8_race 10 = .ok (.invokevirtual 172, 3) := by decide +kernel
theorem dX8_race_13 : decode cX8_race 13 = .ok (.aload_n 0, 1) := by decide +kernel
theorem dX8_race_14 : decode cX8_race 14 = .ok (.getfield 51, 3) := by decide +kernel
theorem dX8_race_17 : decode cX8_race 17 = .ok (.getfield 175, 3) := by decide +kernel
theorem dX8_race_20 : decode cX8_race 20 = .ok (.ireturn, 1) := by decide +kernel
theorem dX8_racer_0 : decode cX8_racer 0 = .ok (.aload_n 0, 1) := by decide +kernel
theorem dX8_racer_1 : decode cX8_racer 1 = .ok (.getfield 79, 3) := by decide +kernel
theorem dX8_racer_4 : decode cX8_racer 4 = .ok (.ifCond .ne 5, 3) := by decide +kernel
theorem dX8_racer_7 : decode cX8_racer 7 = .ok (.iconst (-1), 1) := by decide +kernel
theorem dX8_racer_8 : decode cX8_racer 8 = .ok (.ireturn, 1) := by decide +kernel
theorem dX8_racer_9 : decode cX8_racer 9 = .ok (.aload_n 0, 1) := by decide +kernel
theorem dX8_racer_10 : decode cX8_racer 10 = .ok (.invokevirtual 172, 3) := by decide +kernel
theorem dX8_racer_13 : decode cX8_racer 13 = .ok (.aload_n 0, 1) := by decide +kernel
theorem dX8_racer_14 : decode cX8_racer 14 = .ok (.getfield 51, 3) := by decide +kernel
theorem dX8_racer_17 : decode cX8_racer 17 = .ok (.iload_n 1, 1) := by decide +kernel
theorem dX8_racer_18 : decode cX8_racer 18 = .ok (.invokevirtual 178, 3) := by decide +kernel
theorem dX8_racer_21 : decode cX8_racer 21 = .ok (.ireturn, 1) := by decide +kernel
theorem dX8_cure_0 : decode cX8_cure 0 = .ok (.aload_n 0, 1) := by decide +kernel
theorem dX8_cure_1 : decode cX8_cure 1 = .ok (.getfield 79, 3) := by decide +kernel
theorem dX8_cure_4 : decode cX8_cure 4 = .ok (.ifCond .eq 12, 3) := by decide +kernel
theorem dX8_cure_7 : decode cX8_cure 7 = .ok (.iload_n 1, 1) := by decide +kernel
theorem dX8_cure_8 : decode cX8_cure 8 = .ok (.ifCond .lt 8, 3) := by decide +kernel
theorem dX8_cure_11 : decode cX8_cure 11 = .ok (.iload_n 1, 1) := by decide +kernel
theorem dX8_cure_12 : decode cX8_cure 12 = .ok (.iconst 2, 1) := by decide +kernel
theorem dX8_cure_13 : decode cX8_cure 13 = .ok (.if_icmp .le 5, 3) := by decide +kernel
theorem dX8_cure_16 : decode cX8_cure 16 = .ok (.iconst (-1), 1) := by decide +kernel
theorem dX8_cure_17 : decode cX8_cure 17 = .ok (.ireturn, 1) := by decide +kernel
theorem dX8_cure_18 : decode cX8_cure 18 = .ok (.aload_n 0, 1) := by decide +kernel
theorem dX8_cure_19 : decode cX8_cure 19 = .ok (.iconst 0, 1) := by decide +kernel
theorem dX8_cure_20 : decode cX8_cure 20 = .ok (.invokevirtual 149, 3) := by decide +kernel
theorem dX8_cure_23 : decode cX8_cure 23 = .ok (.astore_n 2, 1) := by decide +kernel
theorem dX8_cure_24 : decode cX8_cure 24 = .ok (.aload_n 0, 1) := by decide +kernel
theorem dX8_cure_25 : decode cX8_cure 25 = .ok (.getfield 58, 3) := by decide +kernel
theorem dX8_cure_28 : decode cX8_cure 28 = .ok (.aload_n 0, 1) := by decide +kernel
theorem dX8_cure_29 : decode cX8_cure 29 = .ok (.getfield 27, 3) := by decide +kernel
theorem dX8_cure_32 : decode cX8_cure 32 = .ok (.aload_n 2, 1) := by decide +kernel
theorem dX8_cure_33 : decode cX8_cure 33 = .ok (.aload_n 0, 1) := by decide +kernel
theorem dX8_cure_34 : decode cX8_cure 34 = .ok (.invokevirtual 181, 3) := by decide +kernel
theorem dX8_cure_37 : decode cX8_cure 37 = .ok (.iload_n 1, 1) := by decide +kernel
theorem dX8_cure_38 : decode cX8_cure 38 = .ok (.invokevirtual 189, 3) := by decide +kernel
theorem dX8_cure_41 : decode cX8_cure 41 = .ok (.ireturn, 1) := by decide +kernel
set_option maxRecDepth 20000 in
theorem ggX8_cured_X0_toldPlace : GoodIn wsX8_cured wsX0_toldPlace := goodIn_r _ [6, 7, 8, 21, 22, 23, 24, 25, 26] (by decide +kernel) (by decide +kernel)
set_option maxRecDepth 20000 in
theorem gX8_cured_X0_toldPlace : GoodIn wsX8_cured (wsV RX8 193 RX0 yX0_toldPlace wsX0_toldPlace) := goodIn_app (goodIn_of _ (by decide +kernel)) ggX8_cured_X0_toldPlace
theorem dX8_cured_0 : decode cX8_cured 0 = .ok (.aload_n 0, 1) := by decide +kernel
theorem dX8_cured_1 : decode cX8_cured 1 = .ok (.getfield 58, 3) := by decide +kernel
theorem dX8_cured_4 : decode cX8_cured 4 = .ok (.iload_n 1, 1) := by decide +kernel
theorem dX8_cured_5 : decode cX8_cured 5 = .ok (.invokevirtual 193, 3) := by decide +kernel
theorem dX8_cured_8 : decode cX8_cured 8 = .ok (.ireturn, 1) := by decide +kernel
theorem dX8_count_0 : decode cX8_count 0 = .ok (.iload_n 1, 1) := by decide +kernel
theorem dX8_count_1 : decode cX8_count 1 = .ok (.ifCond .lt 9, 3) := by decide +kernel
theorem dX8_count_4 : decode cX8_count 4 = .ok (.iload_n 1, 1) := by decide +kernel
theorem dX8_count_5 : decode cX8_count 5 = .ok (.bipush 9, 2) := by decide +kernel
theorem dX8_count_7 : decode cX8_count 7 = .ok (.if_icmp .le 5, 3) := by decide +kernel
theorem dX8_count_10 : decode cX8_count 10 = .ok (.iconst (-1), 1) := by decide +kernel
theorem dX8_count_11 : decode cX8_count 11 = .ok (.ireturn, 1) := by decide +kernel
theorem dX8_count_12 : decode cX8_count 12 = .ok (.iload_n 1, 1) := by decide +kernel
theorem dX8_count_13 : decode cX8_count 13 = .ok (.bipush 9, 2) := by decide +kernel
theorem dX8_count_15 : decode cX8_count 15 = .ok (.if_icmp .ne 8, 3) := by decide +kernel
theorem dX8_count_18 : decode cX8_count 18 = .ok (.aload_n 0, 1) := by decide +kernel
theorem dX8_count_19 : decode cX8_count 19 = .ok (.getfield 62, 3) := by decide +kernel
theorem dX8_count_22 : decode cX8_count 22 = .ok (.ireturn, 1) := by decide +kernel
theorem dX8_count_23 : decode cX8_count 23 = .ok (.aload_n 0, 1) := by decide +kernel
theorem dX8_count_24 : decode cX8_count 24 = .ok (.getfield 79, 3) := by decide +kernel
theorem dX8_count_27 : decode cX8_count 27 = .ok (.ifCond .eq 11, 3) := by decide +kernel
theorem dX8_count_30 : decode cX8_count 30 = .ok (.aload_n 0, 1) := by decide +kernel
theorem dX8_count_31 : decode cX8_count 31 = .ok (.iload_n 1, 1) := by decide +kernel
theorem dX8_count_32 : decode cX8_count 32 = .ok (.invokevirtual 196, 3) := by decide +kernel
theorem dX8_count_35 : decode cX8_count 35 = .ok (.goto 4, 3) := by decide +kernel
theorem dX8_count_38 : decode cX8_count 38 = .ok (.iconst 0, 1) := by decide +kernel
theorem dX8_count_39 : decode cX8_count 39 = .ok (.ireturn, 1) := by decide +kernel
theorem dX9_init_0 : decode cX9_init 0 = .ok (.aload_n 0, 1) := by decide +kernel
theorem dX9_init_1 : decode cX9_init 1 = .ok (.invokespecial 1, 3) := by decide +kernel
theorem dX9_init_4 : decode cX9_init 4 = .ok (.aload_n 0, 1) := by decide +kernel
theorem dX9_init_5 : decode cX9_init 5 = .ok (.iconst 3, 1) := by decide +kernel
theorem dX9_init_6 : decode cX9_init 6 = .ok (.newarray .int, 2) := by decide +kernel
theorem dX9_init_8 : decode cX9_init 8 = .ok (.putfield 7, 3) := by decide +kernel
theorem dX9_init_11 : decode cX9_init 11 = .ok (.aload_n 0, 1) := by decide +kernel
theorem dX9_init_12 : decode cX9_init 12 = .ok (.bipush 9, 2) := by decide +kernel
theorem dX9_init_14 : decode cX9_init 14 = .ok (.newarray .int, 2) := by decide +kernel
theorem dX9_init_16 : decode cX9_init 16 = .ok (.putfield 13, 3) := by decide +kernel
theorem dX9_init_19 : decode cX9_init 19 = .ok (.aload_n 0, 1) := by decide +kernel
theorem dX9_init_20 : decode cX9_init 20 = .ok (.bipush 108, 2) := by decide +kernel
theorem dX9_init_22 : decode cX9_init 22 = .ok (.newarray .int, 2) := by decide +kernel
theorem dX9_init_24 : decode cX9_init 24 = .ok (.putfield 16, 3) := by decide +kernel
theorem dX9_init_27 : decode cX9_init 27 = .ok (.aload_n 0, 1) := by decide +kernel
theorem dX9_init_28 : decode cX9_init 28 = .ok (.bipush 108, 2) := by decide +kernel
theorem dX9_init_30 : decode cX9_init 30 = .ok (.newarray .int, 2) := by decide +kernel
theorem dX9_init_32 : decode cX9_init 32 = .ok (.putfield 19, 3) := by decide +kernel
theorem dX9_init_35 : decode cX9_init 35 = .ok (.aload_n 0, 1) := by decide +kernel
theorem dX9_init_36 : decode cX9_init 36 = .ok (.bipush 108, 2) := by decide +kernel
theorem dX9_init_38 : decode cX9_init 38 = .ok (.newarray .int, 2) := by decide +kernel
theorem dX9_init_40 : decode cX9_init 40 = .ok (.putfield 22, 3) := by decide +kernel
theorem dX9_init_43 : decode cX9_init 43 = .ok (.aload_n 0, 1) := by decide +kernel
theorem dX9_init_44 : decode cX9_init 44 = .ok (.bipush 108, 2) := by decide +kernel
theorem dX9_init_46 : decode cX9_init 46 = .ok (.newarray .int, 2) := by decide +kernel
theorem dX9_init_48 : decode cX9_init 48 = .ok (.putfield 25, 3) := by decide +kernel
theorem dX9_init_51 : decode cX9_init 51 = .ok (.aload_n 0, 1) := by decide +kernel
theorem dX9_init_52 : decode cX9_init 52 = .ok (.bipush 108, 2) := by decide +kernel
theorem dX9_init_54 : decode cX9_init 54 = .ok (.newarray .int, 2) := by decide +kernel
theorem dX9_init_56 : decode cX9_init 56 = .ok (.putfield 28, 3) := by decide +kernel
theorem dX9_init_59 : decode cX9_init 59 = .ok (.aload_n 0, 1) := by decide +kernel
theorem dX9_init_60 : decode cX9_init 60 = .ok (.bipush 108, 2) := by decide +kernel
theorem dX9_init_62 : decode cX9_init 62 = .ok (.newarray .int, 2) := by decide +kernel
theorem dX9_init_64 : decode cX9_init 64 = .ok (.putfield 31, 3) := by decide +kernel
theorem dX9_init_67 : decode cX9_init 67 = .ok (.aload_n 0, 1) := by decide +kernel
theorem dX9_init_68 : decode cX9_init 68 = .ok (.bipush 108, 2) := by decide +kernel
theorem dX9_init_70 : decode cX9_init 70 = .ok (.newarray .int, 2) := by decide +kernel
theorem dX9_init_72 : decode cX9_init 72 = .ok (.putfield 34, 3) := by decide +kernel
theorem dX9_init_75 : decode cX9_init 75 = .ok (.aload_n 0, 1) := by decide +kernel
theorem dX9_init_76 : decode cX9_init 76 = .ok (.bipush 108, 2) := by decide +kernel
theorem dX9_init_78 : decode cX9_init 78 = .ok (.newarray .int, 2) := by decide +kernel
theorem dX9_init_80 : decode cX9_init 80 = .ok (.putfield 37, 3) := by decide +kernel
theorem dX9_init_83 : decode cX9_init 83 = .ok (.aload_n 0, 1) := by decide +kernel
theorem dX9_init_84 : decode cX9_init 84 = .ok (.bipush 12, 2) := by decide +kernel
theorem dX9_init_86 : decode cX9_init 86 = .ok (.newarray .int, 2) := by decide +kernel
theorem dX9_init_88 : decode cX9_init 88 = .ok (.putfield 40, 3) := by decide +kernel
theorem dX9_init_91 : decode cX9_init 91 = .ok (.aload_n 0, 1) := by decide +kernel
theorem dX9_init_92 : decode cX9_init 92 = .ok (.ldc 43, 2) := by decide +kernel
theorem dX9_init_94 : decode cX9_init 94 = .ok (.newarray .int, 2) := by decide +kernel
theorem dX9_init_96 : decode cX9_init 96 = .ok (.putfield 44, 3) := by decide +kernel
theorem dX9_init_99 : decode cX9_init 99 = .ok (.aload_n 0, 1) := by decide +kernel
theorem dX9_init_100 : decode cX9_init 100 = .ok (.sipush 9000, 3) := by decide +kernel
theorem dX9_init_103 : decode cX9_init 103 = .ok (.newarray .int, 2) := by decide +kernel
theorem dX9_init_105 : decode cX9_init 105 = .ok (.putfield 47, 3) := by decide +kernel
theorem dX9_init_108 : decode cX9_init 108 = .ok (.aload_n 0, 1) := by decide +kernel
theorem dX9_init_109 : decode cX9_init 109 = .ok (.sipush 9000, 3) := by decide +kernel
theorem dX9_init_112 : decode cX9_init 112 = .ok (.newarray .int, 2) := by decide +kernel
theorem dX9_init_114 : decode cX9_init 114 = .ok (.putfield 50, 3) := by decide +kernel
theorem dX9_init_117 : decode cX9_init 117 = .ok (.aload_n 0, 1) := by decide +kernel
theorem dX9_init_118 : decode cX9_init 118 = .ok (.sipush 9000, 3) := by decide +kernel
theorem dX9_init_121 : decode cX9_init 121 = .ok (.newarray .int, 2) := by decide +kernel
theorem dX9_init_123 : decode cX9_init 123 = .ok (.putfield 53, 3) := by decide +kernel
theorem dX9_init_126 : decode cX9_init 126 = .ok (.aload_n 0, 1) := by decide +kernel
theorem dX9_init_127 : decode cX9_init 127 = .ok (.sipush 12288, 3) := by decide +kernel
theorem dX9_init_130 : decode cX9_init 130 = .ok (.newarray .int, 2) := by decide +kernel
theorem dX9_init_132 : decode cX9_init 132 = .ok (.putfield 56, 3) := by decide +kernel
theorem dX9_init_135 : decode cX9_init 135 = .ok (.aload_n 0, 1) := by decide +kernel
theorem dX9_init_136 : decode cX9_init 136 = .ok (.iconst 3, 1) := by decide +kernel
theorem dX9_init_137 : decode cX9_init 137 = .ok (.newarray .int, 2) := by decide +kernel
theorem dX9_init_139 : decode cX9_init 139 = .ok (.putfield 59, 3) := by decide +kernel
theorem dX9_init_142 : decode cX9_init 142 = .ok (.aload_n 0, 1) := by decide +kernel
theorem dX9_init_143 : decode cX9_init 143 = .ok (.iconst 3, 1) := by decide +kernel
theorem dX9_init_144 : decode cX9_init 144 = .ok (.newarray .boolean, 2) := by decide +kernel
theorem dX9_init_146 : decode cX9_init 146 = .ok (.putfield 62, 3) := by decide +kernel
theorem dX9_init_149 : decode cX9_init 149 = .ok (.aload_n 0, 1) := by decide +kernel
theorem dX9_init_150 : decode cX9_init 150 = .ok (.iconst 3, 1) := by decide +kernel
theorem dX9_init_151 : decode cX9_init 151 = .ok (.newarray .boolean, 2) := by decide +kernel
theorem dX9_init_153 : decode cX9_init 153 = .ok (.putfield 66, 3) := by decide +kernel
theorem dX9_init_156 : decode cX9_init 156 = .ok (.aload_n 0, 1) := by decide +kernel
theorem dX9_init_157 : decode cX9_init 157 = .ok (.sipush 9000, 3) := by decide +kernel
theorem dX9_init_160 : decode cX9_init 160 = .ok (.newarray .int, 2) := by decide +kernel
theorem dX9_init_162 : decode cX9_init 162 = .ok (.putfield 69, 3) := by decide +kernel
theorem dX9_init_165 : decode cX9_init 165 = .ok (.aload_n 0, 1) := by decide +kernel
theorem dX9_init_166 : decode cX9_init 166 = .ok (.iconst 3, 1) := by decide +kernel
theorem dX9_init_167 : decode cX9_init 167 = .ok (.newarray .int, 2) := by decide +kernel
theorem dX9_init_169 : decode cX9_init 169 = .ok (.putfield 72, 3) := by decide +kernel
theorem dX9_init_172 : decode cX9_init 172 = .ok (.aload_n 0, 1) := by decide +kernel
theorem dX9_init_173 : decode cX9_init 173 = .ok (.bipush 58, 2) := by decide +kernel
theorem dX9_init_175 : decode cX9_init 175 = .ok (.newarray .int, 2) := by decide +kernel
theorem dX9_init_177 : decode cX9_init 177 = .ok (.putfield 75, 3) := by decide +kernel
theorem dX9_init_180 : decode cX9_init 180 = .ok (.aload_n 0, 1) := by decide +kernel
theorem dX9_init_181 : decode cX9_init 181 = .ok (.bipush 58, 2) := by decide +kernel
theorem dX9_init_183 : decode cX9_init 183 = .ok (.newarray .int, 2) := by decide +kernel
theorem dX9_init_185 : decode cX9_init 185 = .ok (.putfield 78, 3) := by decide +kernel
theorem dX9_init_188 : decode cX9_init 188 = .ok (.aload_n 0, 1) := by decide +kernel
theorem dX9_init_189 : decode cX9_init 189 = .ok (.sipush 2900, 3) := by decide +kernel
theorem dX9_init_192 : decode cX9_init 192 = .ok (.newarray .int, 2) := by decide +kernel
theorem dX9_init_194 : decode cX9_init 194 = .ok (.putfield 81, 3) := by decide +kernel
theorem dX9_init_197 : decode cX9_init 197 = .ok (.aload_n 0, 1) := by decide +kernel
theorem dX9_init_198 : decode cX9_init 198 = .ok (.iconst (-1), 1) := by decide +kernel
theorem dX9_init_199 : decode cX9_init 199 = .ok (.putfield 84, 3) := by decide +kernel
theorem dX9_init_202 : decode cX9_init 202 = .ok (.aload_n 0, 1) := by decide +kernel
theorem dX9_init_203 : decode cX9_init 203 = .ok (.sipush 4000, 3) := by decide +kernel
theorem dX9_init_206 : decode cX9_init 206 = .ok (.newarray .byte, 2) := by decide +kernel
theorem dX9_init_208 : decode cX9_init 208 = .ok (.putfield 88, 3) := by decide +kernel
theorem dX9_init_211 : decode cX9_init 211 = .ok (.aload_n 0, 1) := by decide +kernel
theorem dX9_init_212 : decode cX9_init 212 = .ok (.iconst (-1), 1) := by decide +kernel
theorem dX9_init_213 : decode cX9_init 213 = .ok (.putfield 92, 3) := by decide +kernel
theorem dX9_init_216 : decode cX9_init 216 = .ok (.aload_n 0, 1) := by decide +kernel
theorem dX9_init_217 : decode cX9_init 217 = .ok (.bipush 12, 2) := by decide +kernel
theorem dX9_init_219 : decode cX9_init 219 = .ok (.newarray .int, 2) := by decide +kernel
theorem dX9_init_221 : decode cX9_init 221 = .ok (.putfield 95, 3) := by decide +kernel
theorem dX9_init_224 : decode cX9_init 224 = .ok (.aload_n 0, 1) := by decide +kernel
theorem dX9_init_225 : decode cX9_init 225 = .ok (.iconst (-1), 1) := by decide +kernel
theorem dX9_init_226 : decode cX9_init 226 = .ok (.putfield 98, 3) := by decide +kernel
theorem dX9_init_229 : decode cX9_init 229 = .ok (.aload_n 0, 1) := by decide +kernel
theorem dX9_init_230 : decode cX9_init 230 = .ok (.bipush 64, 2) := by decide +kernel
theorem dX9_init_232 : decode cX9_init 232 = .ok (.newarray .int, 2) := by decide +kernel
theorem dX9_init_234 : decode cX9_init 234 = .ok (.putfield 101, 3) := by decide +kernel
theorem dX9_init_237 : decode cX9_init 237 = .ok (.aload_n 0, 1) := by decide +kernel
theorem dX9_init_238 : decode cX9_init 238 = .ok (.iconst (-1), 1) := by decide +kernel
theorem dX9_init_239 : decode cX9_init 239 = .ok (.putfield 104, 3) := by decide +kernel
theorem dX9_init_242 : decode cX9_init 242 = .ok (.aload_n 0, 1) := by decide +kernel
theorem dX9_init_243 : decode cX9_init 243 = .ok (.iconst 2, 1) := by decide +kernel
theorem dX9_init_244 : decode cX9_init 244 = .ok (.newarray .int, 2) := by decide +kernel
theorem dX9_init_246 : decode cX9_init 246 = .ok (.putfield 107, 3) := by decide +kernel
theorem dX9_init_249 : decode cX9_init 249 = .ok (.aload_n 0, 1) := by decide +kernel
theorem dX9_init_250 : decode cX9_init 250 = .ok (.bipush 16, 2) := by decide +kernel
theorem dX9_init_252 : decode cX9_init 252 = .ok (.newarray .int, 2) := by decide +kernel
theorem dX9_init_254 : decode cX9_init 254 = .ok (.putfield 110, 3) := by decide +kernel
theorem dX9_init_257 : decode cX9_init 257 = .ok (.aload_n 0, 1) := by decide +kernel
theorem dX9_init_258 : decode cX9_init 258 = .ok (.bipush 13, 2) := by decide +kernel
theorem dX9_init_260 : decode cX9_init 260 = .ok (.newarray .int, 2) := by decide +kernel
theorem dX9_init_262 : decode cX9_init 262 = .ok (.putfield 113, 3) := by decide +kernel
theorem dX9_init_265 : decode cX9_init 265 = .ok (.return_, 1) := by decide +kernel
set_option maxRecDepth 20000 in
theorem ggX9_feed_X9_byteRow : GoodIn wsX9_feed wsX9_byteRow := goodIn_r _ [6, 7, 1, 8, 9, 10, 11, 12, 13, 14, 15, 16, 17, 18, 19, 20, 21, 22, 23, 24, 25, 26, 27, 28, 29, 30, 31, 32, 33, 34, 35, 36, 37, 38, 39, 40, 41, 42, 43, 44, 45, 46, 47, 48, 49, 50, 51, 52, 53, 54, 55, 56, 57, 58, 59] (by decide +kernel) (by decide +kernel)
set_option maxRecDepth 20000 in
theorem gX9_feed_X9_byteRow : GoodIn wsX9_feed (wsV RX9 119 RX9 yX9_byteRow wsX9_byteRow) := goodIn_app (goodIn_of _ (by decide +kernel)) ggX9_feed_X9_byteRow
theorem dX9_feed_0 : decode cX9_feed 0 = .ok (.aload_n 0, 1) := by decide +kernel
theorem dX9_feed_1 : decode cX9_feed 1 = .ok (.getfield 116, 3) := by decide +kernel
theorem dX9_feed_4 : decode cX9_feed 4 = .ok (.bipush 20, 2) := by decide +kernel
theorem dX9_feed_6 : decode cX9_feed 6 = .ok (.iadd, 1) := by decide +kernel
theorem dX9_feed_7 : decode cX9_feed 7 = .ok (.sipush 4000, 3) := by decide +kernel
theorem dX9_feed_10 : decode cX9_feed 10 = .ok (.if_icmp .le 5, 3) := by decide +kernel
theorem dX9_feed_13 : decode cX9_feed 13 = .ok (.iconst (-1), 1) := by decide +kernel
theorem dX9_feed_14 : decode cX9_feed 14 = .ok (.ireturn, 1) := by decide +kernel
theorem dX9_feed_15 : decode cX9_feed 15 = .ok (.aload_n 0, 1) := by decide +kernel
theorem dX9_feed_16 : decode cX9_feed 16 = .ok (.iload_n 1, 1) := by decide +kernel
theorem dX9_feed_17 : decode cX9_feed 17 = .ok (.invokevirtual 119, 3) := by decide +kernel
theorem dX9_feed_20 : decode cX9_feed 20 = .ok (.aload_n 0, 1) := by decide +kernel
theorem dX9_feed_21 : decode cX9_feed 21 = .ok (.iload_n 2, 1) := by decide +kernel
theorem dX9_feed_22 : decode cX9_feed 22 = .ok (.invokevirtual 119, 3) := by decide +kernel
theorem dX9_feed_25 : decode cX9_feed 25 = .ok (.aload_n 0, 1) := by decide +kernel
theorem dX9_feed_26 : decode cX9_feed 26 = .ok (.iload_n 3, 1) := by decide +kernel
theorem dX9_feed_27 : decode cX9_feed 27 = .ok (.invokevirtual 119, 3) := by decide +kernel
theorem dX9_feed_30 : decode cX9_feed 30 = .ok (.aload_n 0, 1) := by decide +kernel
theorem dX9_feed_31 : decode cX9_feed 31 = .ok (.iload 4, 2) := by decide +kernel
theorem dX9_feed_33 : decode cX9_feed 33 = .ok (.invokevirtual 119, 3) := by decide +kernel
theorem dX9_feed_36 : decode cX9_feed 36 = .ok (.aload_n 0, 1) := by decide +kernel
theorem dX9_feed_37 : decode cX9_feed 37 = .ok (.iload 5, 2) := by decide +kernel
theorem dX9_feed_39 : decode cX9_feed 39 = .ok (.invokevirtual 119, 3) := by decide +kernel
theorem dX9_feed_42 : decode cX9_feed 42 = .ok (.aload_n 0, 1) := by decide +kernel
theorem dX9_feed_43 : decode cX9_feed 43 = .ok (.getfield 116, 3) := by decide +kernel
theorem dX9_feed_46 : decode cX9_feed 46 = .ok (.ireturn, 1) := by decide +kernel
theorem dX9_byteRow_0 : decode cX9_byteRow 0 = .ok (.iconst 3, 1) := by decide +kernel
theorem dX9_byteRow_1 : decode cX9_byteRow 1 = .ok (.istore_n 2, 1) := by decide +kernel
theorem dX9_byteRow_2 : decode cX9_byteRow 2 = .ok (.iload_n 2, 1) := by decide +kernel
theorem dX9_byteRow_3 : decode cX9_byteRow 3 = .ok (.ifCond .lt 35, 3) := by decide +kernel
theorem dX9_byteRow_6 : decode cX9_byteRow 6 = .ok (.aload_n 0, 1) := by decide +kernel
theorem dX9_byteRow_7 : decode cX9_byteRow 7 = .ok (.getfield 88, 3) := by decide +kernel
theorem dX9_byteRow_10 : decode cX9_byteRow 10 = .ok (.aload_n 0, 1) := by decide +kernel
theorem dX9_byteRow_11 : decode cX9_byteRow 11 = .ok (.getfield 116, 3) := by decide +kernel
theorem dX9_byteRow_14 : decode cX9_byteRow 14 = .ok (.iload_n 1, 1) := by decide +kernel
theorem dX9_byteRow_15 : decode cX9_byteRow 15 = .ok (.bipush 8, 2) := by decide +kernel
theorem dX9_byteRow_17 : decode cX9_byteRow 17 = .ok (.iload_n 2, 1) := by decide +kernel
theorem dX9_byteRow_18 : decode cX9_byteRow 18 = .ok (.imul, 1) := by decide +kernel
theorem dX9_byteRow_19 : decode cX9_byteRow 19 = .ok (.iushr, 1) := by decide +kernel
theorem dX9_byteRow_20 : decode cX9_byteRow 20 = .ok (.i2b, 1) := by decide +kernel
theorem dX9_byteRow_21 : decode cX9_byteRow 21 = .ok (.bastore, 1) := by decide +kernel
theorem dX9_byteRow_22 : decode cX9_byteRow 22 = .ok (.aload_n 0, 1) := by decide +kernel
theorem dX9_byteRow_23 : decode cX9_byteRow 23 = .ok (.dup, 1) := by decide +kernel
theorem dX9_byteRow_24 : decode cX9_byteRow 24 = .ok (.getfield 116, 3) := by decide +kernel
theorem dX9_byteRow_27 : decode cX9_byteRow 27 = .ok (.iconst 1, 1) := by decide +kernel
theorem dX9_byteRow_28 : decode cX9_byteRow 28 = .ok (.iadd, 1) := by decide +kernel
theorem dX9_byteRow_29 : decode cX9_byteRow 29 = .ok (.putfield 116, 3) := by decide +kernel
theorem dX9_byteRow_32 : decode cX9_byteRow 32 = .ok (.iinc 2 (-1), 3) := by decide +kernel
theorem dX9_byteRow_35 : decode cX9_byteRow 35 = .ok (.goto (-33), 3) := by decide +kernel
theorem dX9_byteRow_38 : decode cX9_byteRow 38 = .ok (.return_, 1) := by decide +kernel
theorem dX9_back_0 : decode cX9_back 0 = .ok (.iload_n 1, 1) := by decide +kernel
theorem dX9_back_1 : decode cX9_back 1 = .ok (.ifCond .lt 11, 3) := by decide +kernel
theorem dX9_back_4 : decode cX9_back 4 = .ok (.iload_n 1, 1) := by decide +kernel
theorem dX9_back_5 : decode cX9_back 5 = .ok (.aload_n 0, 1) := by decide +kernel
theorem dX9_back_6 : decode cX9_back 6 = .ok (.getfield 116, 3) := by decide +kernel
theorem dX9_back_9 : decode cX9_back 9 = .ok (.if_icmp .le 5, 3) := by decide +kernel
theorem dX9_back_12 : decode cX9_back 12 = .ok (.iconst (-1), 1) := by decide +kernel
theorem dX9_back_13 : decode cX9_back 13 = .ok (.ireturn, 1) := by decide +kernel
theorem dX9_back_14 : decode cX9_back 14 = .ok (.aload_n 0, 1) := by decide +kernel
theorem dX9_back_15 : decode cX9_back 15 = .ok (.dup, 1) := by decide +kernel
theorem dX9_back_16 : decode cX9_back 16 = .ok (.getfield 116, 3) := by decide +kernel
theorem dX9_back_19 : decode cX9_back 19 = .ok (.iload_n 1, 1) := by decide +kernel
theorem dX9_back_20 : decode cX9_back 20 = .ok (.isub, 1) := by decide +kernel
theorem dX9_back_21 : decode cX9_back 21 = .ok (.putfield 116, 3) := by decide +kernel
theorem dX9_back_24 : decode cX9_back 24 = .ok (.aload_n 0, 1) := by decide +kernel
theorem dX9_back_25 : decode cX9_back 25 = .ok (.getfield 116, 3) := by decide +kernel
theorem dX9_back_28 : decode cX9_back 28 = .ok (.ireturn, 1) := by decide +kernel
theorem dX9_seen_0 : decode cX9_seen 0 = .ok (.iload_n 1, 1) := by decide +kernel
theorem dX9_seen_1 : decode cX9_seen 1 = .ok (.aload_n 0, 1) := by decide +kernel
theorem dX9_seen_2 : decode cX9_seen 2 = .ok (.getfield 116, 3) := by decide +kernel
theorem dX9_seen_5 : decode cX9_seen 5 = .ok (.if_icmp .ge 12, 3) := by decide +kernel
theorem dX9_seen_8 : decode cX9_seen 8 = .ok (.aload_n 0, 1) := by decide +kernel
theorem dX9_seen_9 : decode cX9_seen 9 = .ok (.getfield 88, 3) := by decide +kernel
theorem dX9_seen_12 : decode cX9_seen 12 = .ok (.iload_n 1, 1) := by decide +kernel
theorem dX9_seen_13 : decode cX9_seen 13 = .ok (.baload, 1) := by decide +kernel
theorem dX9_seen_14 : decode cX9_seen 14 = .ok (.goto 4, 3) := by decide +kernel
theorem dX9_seen_17 : decode cX9_seen 17 = .ok (.iconst 0, 1) := by decide +kernel
theorem dX9_seen_18 : decode cX9_seen 18 = .ok (.ireturn, 1) := by decide +kernel
set_option maxRecDepth 20000 in
theorem ggX9_token_X9_seen : GoodIn wsX9_token wsX9_seen := goodIn_r _ [11, 2, 3, 20, 21, 22, 23, 24, 25, 26, 27, 28, 29, 30, 31, 32, 33, 34, 35, 36, 37, 38, 39, 40, 41, 42, 43, 44, 45, 46, 47, 48, 49, 50, 51, 52, 53, 54, 55, 56, 57, 58, 59, 60, 61, 62, 63, 64, 65, 66, 67, 68, 69, 70, 71] (by decide +kernel) (by decide +kernel)
set_option maxRecDepth 20000 in
theorem gX9_token_X9_seen : GoodIn wsX9_token (wsV RX9 123 RX9 yX9_seen wsX9_seen) := goodIn_app (goodIn_of _ (by decide +kernel)) ggX9_token_X9_seen
theorem dX9_token_0 : decode cX9_token 0 = .ok (.aload_n 0, 1) := by decide +kernel
theorem dX9_token_1 : decode cX9_token 1 = .ok (.getfield 127, 3) := by decide +kernel
theorem dX9_token_4 : decode cX9_token 4 = .ok (.istore_n 1, 1) := by decide +kernel
theorem dX9_token_5 : decode cX9_token 5 = .ok (.iload_n 1, 1) := by decide +kernel
theorem dX9_token_6 : decode cX9_token 6 = .ok (.aload_n 0, 1) := by decide +kernel
theorem dX9_token_7 : decode cX9_token 7 = .ok (.getfield 116, 3) := by decide +kernel
theorem dX9_token_10 : decode cX9_token 10 = .ok (.if_icmp .ge 53, 3) := by decide +kernel
theorem dX9_token_13 : decode cX9_token 13 = .ok (.aload_n 0, 1) := by decide +kernel
theorem dX9_token_14 : decode cX9_token 14 = .ok (.getfield 88, 3) := by decide +kernel
theorem dX9_token_17 : decode cX9_token 17 = .ok (.iload_n 1, 1) := by decide +kernel
theorem dX9_token_18 : decode cX9_token 18 = .ok (.baload, 1) := by decide +kernel
theorem dX9_token_19 : decode cX9_token 19 = .ok (.bipush 9, 2) := by decide +kernel
theorem dX9_token_21 : decode cX9_token 21 = .ok (.if_icmp .eq 36, 3) := by decide +kernel
theorem dX9_token_24 : decode cX9_token 24 = .ok (.aload_n 0, 1) := by decide +kernel
theorem dX9_token_25 : decode cX9_token 25 = .ok (.getfield 88, 3) := by decide +kernel
theorem dX9_token_28 : decode cX9_token 28 = .ok (.iload_n 1, 1) := by decide +kernel
theorem dX9_token_29 : decode cX9_token 29 = .ok (.baload, 1) := by decide +kernel
theorem dX9_token_30 : decode cX9_token 30 = .ok (.bipush 10, 2) := by decide +kernel
theorem dX9_token_32 : decode cX9_token 32 = .ok (.if_icmp .eq 25, 3) := by decide +kernel
theorem dX9_token_35 : decode cX9_token 35 = .ok (.aload_n 0, 1) := by decide +kernel
theorem dX9_token_36 : decode cX9_token 36 = .ok (.getfield 88, 3) := by decide +kernel
theorem dX9_token_39 : decode cX9_token 39 = .ok (.iload_n 1, 1) := by decide +kernel
theorem dX9_token_40 : decode cX9_token 40 = .ok (.baload, 1) := by decide +kernel
theorem dX9_token_41 : decode cX9_token 41 = .ok (.bipush 13, 2) := by decide +kernel
theorem dX9_token_43 : decode cX9_token 43 = .ok (.if_icmp .eq 14, 3) := by decide +kernel
theorem dX9_token_46 : decode cX9_token 46 = .ok (.aload_n 0, 1) := by decide +kernel
theorem dX9_token_47 : decode cX9_token 47 = .ok (.getfield 88, 3) := by decide +kernel
theorem dX9_token_50 : decode cX9_token 50 = .ok (.iload_n 1, 1) := by decide +kernel
theorem dX9_token_51 : decode cX9_token 51 = .ok (.baload, 1) := by decide +kernel
theorem dX9_token_52 : decode cX9_token 52 = .ok (.bipush 32, 2) := by decide +kernel
theorem dX9_token_54 : decode cX9_token 54 = .ok (.if_icmp .ne 9, 3) := by decide +kernel
theorem dX9_token_57 : decode cX9_token 57 = .ok (.iinc 1 1, 3) := by decide +kernel
theorem dX9_token_60 : decode cX9_token 60 = .ok (.goto (-55), 3) := by decide +kernel
theorem dX9_token_63 : decode cX9_token 63 = .ok (.aload_n 0, 1) := by decide +kernel
theorem dX9_token_64 : decode cX9_token 64 = .ok (.iload_n 1, 1) := by decide +kernel
theorem dX9_token_65 : decode cX9_token 65 = .ok (.putfield 130, 3) := by decide +kernel
theorem dX9_token_68 : decode cX9_token 68 = .ok (.iload_n 1, 1) := by decide +kernel
theorem dX9_token_69 : decode cX9_token 69 = .ok (.iconst 1, 1) := by decide +kernel
theorem dX9_token_70 : decode cX9_token 70 = .ok (.iadd, 1) := by decide +kernel
theorem dX9_token_71 : decode cX9_token 71 = .ok (.istore_n 2, 1) := by decide +kernel
theorem dX9_token_72 : decode cX9_token 72 = .ok (.aload_n 0, 1) := by decide +kernel
theorem dX9_token_73 : decode cX9_token 73 = .ok (.iload_n 1, 1) := by decide +kernel
theorem dX9_token_74 : decode cX9_token 74 = .ok (.invokevirtual 123, 3) := by decide +kernel
theorem dX9_token_77 : decode cX9_token 77 = .ok (.istore_n 3, 1) := by decide +kernel
theorem dX9_token_78 : decode cX9_token 78 = .ok (.aload_n 0, 1) := by decide +kernel
theorem dX9_token_79 : decode cX9_token 79 = .ok (.lconst 0, 1) := by decide +kernel
theorem dX9_token_80 : decode cX9_token 80 = .ok (.putfield 133, 3) := by decide +kernel
theorem dX9_token_83 : decode cX9_token 83 = .ok (.iload_n 1, 1) := by decide +kernel
theorem dX9_token_84 : decode cX9_token 84 = .ok (.aload_n 0, 1) := by decide +kernel
theorem dX9_token_85 : decode cX9_token 85 = .ok (.getfield 116, 3) := by decide +kernel
theorem dX9_token_88 : decode cX9_token 88 = .ok (.if_icmp .lt 13, 3) := by decide +kernel
theorem dX9_token_91 : decode cX9_token 91 = .ok (.aload_n 0, 1) := by decide +kernel
theorem dX9_token_92 : decode cX9_token 92 = .ok (.iconst 0, 1) := by decide +kernel
theorem dX9_token_93 : decode cX9_token 93 = .ok (.putfield 137, 3) := by decide +kernel
theorem dX9_token_96 : decode cX9_token 96 = .ok (.iload_n 1, 1) := by decide +kernel
theorem dX9_token_97 : decode cX9_token 97 = .ok (.istore_n 2, 1) := by decide +kernel
theorem dX9_token_98 : decode cX9_token 98 = .ok (.goto 168, 3) := by decide +kernel
theorem dX9_token_101 : decode cX9_token 101 = .ok (.aload_n 0, 1) := by decide +kernel
theorem dX9_token_102 : decode cX9_token 102 = .ok (.iload_n 1, 1) := by decide +kernel
theorem dX9_token_103 : decode cX9_token 103 = .ok (.invokevirtual 140, 3) := by decide +kernel
theorem dX9_token_106 : decode cX9_token 106 = .ok (.ifCond .eq 80, 3) := by decide +kernel
theorem dX9_token_109 : decode cX9_token 109 = .ok (.aload_n 0, 1) := by decide +kernel
theorem dX9_token_110 : decode cX9_token 110 = .ok (.iload_n 2, 1) := by decide +kernel
theorem dX9_token_111 : decode cX9_token 111 = .ok (.invokevirtual 140, 3) := by decide +kernel
theorem dX9_token_114 : decode cX9_token 114 = .ok (.ifCond .eq 9, 3) := by decide +kernel
theorem dX9_token_117 : decode cX9_token 117 = .ok (.iinc 2 1, 3) := by decide +kernel
theorem dX9_token_120 : decode cX9_token 120 = .ok (.goto (-11), 3) := by decide +kernel
theorem dX9_token_123 : decode cX9_token 123 = .ok (.aload_n 0, 1) := by decide +kernel
theorem dX9_token_124 : decode cX9_token 124 = .ok (.iload_n 2, 1) := by decide +kernel
theorem dX9_token_125 : decode cX9_token 125 = .ok (.iload_n 1, 1) := by decide +kernel
theorem dX9_token_126 : decode cX9_token 126 = .ok (.isub, 1) := by decide +kernel
theorem dX9_token_127 : decode cX9_token 127 = .ok (.bipush 8, 2) := by decide +kernel
theorem dX9_token_129 : decode cX9_token 129 = .ok (.if_icmp .le 7, 3) := by decide +kernel
theorem dX9_token_132 : decode cX9_token 132 = .ok (.iconst 5, 1) := by decide +kernel
theorem dX9_token_133 : decode cX9_token 133 = .ok (.goto 4, 3) := by decide +kernel
theorem dX9_token_136 : decode cX9_token 136 = .ok (.iconst 1, 1) := by decide +kernel
theorem dX9_token_137 : decode cX9_token 137 = .ok (.putfield 137, 3) := by decide +kernel
theorem dX9_token_140 : decode cX9_token 140 = .ok (.iload_n 1, 1) := by decide +kernel
theorem dX9_token_141 : decode cX9_token 141 = .ok (.istore 4, 2) := by decide +kernel
theorem dX9_token_143 : decode cX9_token 143 = .ok (.iload 4, 2) := by decide +kernel
theorem dX9_token_145 : decode cX9_token 145 = .ok (.iload_n 2, 1) := by decide +kernel
theorem dX9_token_146 : decode cX9_token 146 = .ok (.if_icmp .ge 37, 3) := by decide +kernel
theorem dX9_token_149 : decode cX9_token 149 = .ok (.aload_n 0, 1) := by decide +kernel
theorem dX9_token_150 : decode cX9_token 150 = .ok (.getfield 137, 3) := by decide +kernel
theorem dX9_token_153 : decode cX9_token 153 = .ok (.iconst 1, 1) := by decide +kernel
theorem dX9_token_154 : decode cX9_token 154 = .ok (.if_icmp .ne 29, 3) := by decide +kernel
theorem dX9_token_157 : decode cX9_token 157 = .ok (.aload_n 0, 1) := by decide +kernel
theorem dX9_token_158 : decode cX9_token 158 = .ok (.aload_n 0, 1) := by decide +kernel
theorem dX9_token_159 : decode cX9_token 159 = .ok (.getfield 133, 3) := by decide +kernel
theorem dX9_token_162 : decode cX9_token 162 = .ok (.bipush 8, 2) := by decide +kernel
theorem dX9_token_164 : decode cX9_token 164 = .ok (.lshl, 1) := by decide +kernel
theorem dX9_token_165 : decode cX9_token 165 = .ok (.aload_n 0, 1) := by decide +kernel
theorem dX9_token_166 : decode cX9_token 166 = .ok (.getfield 88, 3) := by decide +kernel
theorem dX9_token_169 : decode cX9_token 169 = .ok (.iload 4, 2) := by decide +kernel
theorem dX9_token_171 : decode cX9_token 171 = .ok (.baload, 1) := by decide +kernel
theorem dX9_token_172 : decode cX9_token 172 = .ok (.i2l, 1) := by decide +kernel
theorem dX9_token_173 : decode cX9_token 173 = .ok (.lor, 1) := by decide +kernel
theorem dX9_token_174 : decode cX9_token 174 = .ok (.putfield 133, 3) := by decide +kernel
theorem dX9_token_177 : decode cX9_token 177 = .ok (.iinc 4 1, 3) := by decide +kernel
theorem dX9_token_180 : decode cX9_token 180 = .ok (.goto (-37), 3) := by decide +kernel
theorem dX9_token_183 : decode cX9_token 183 = .ok (.goto 83, 3) := by decide +kernel
theorem dX9_token_186 : decode cX9_token 186 = .ok (.aload_n 0, 1) := by decide +kernel
theorem dX9_token_187 : decode cX9_token 187 = .ok (.iload_n 1, 1) := by decide +kernel
theorem dX9_token_188 : decode cX9_token 188 = .ok (.invokevirtual 144, 3) := by decide +kernel
theorem dX9_token_191 : decode cX9_token 191 = .ok (.ifCond .eq 36, 3) := by decide +kernel
theorem dX9_token_194 : decode cX9_token 194 = .ok (.aload_n 0, 1) := by decide +kernel
theorem dX9_token_195 : decode cX9_token 195 = .ok (.iload_n 2, 1) := by decide +kernel
theorem dX9_token_196 : decode cX9_token 196 = .ok (.invokevirtual 144, 3) := by decide +kernel
theorem dX9_token_199 : decode cX9_token 199 = .ok (.ifCond .eq 9, 3) := by decide +kernel
theorem dX9_token_202 : decode cX9_token 202 = .ok (.iinc 2 1, 3) := by decide +kernel
theorem dX9_token_205 : decode cX9_token 205 = .ok (.goto (-11), 3) := by decide +kernel
theorem dX9_token_208 : decode cX9_token 208 = .ok (.aload_n 0, 1) := by decide +kernel
theorem dX9_token_209 : decode cX9_token 209 = .ok (.iload_n 2, 1) := by decide +kernel
theorem dX9_token_210 : decode cX9_token 210 = .ok (.iload_n 1, 1) := by decide +kernel
theorem dX9_token_211 : decode cX9_token 211 = .ok (.isub, 1) := by decide +kernel
theorem dX9_token_212 : decode cX9_token 212 = .ok (.iconst 3, 1) := by decide +kernel
theorem dX9_token_213 : decode cX9_token 213 = .ok (.if_icmp .le 7, 3) := by decide +kernel
theorem dX9_token_216 : decode cX9_token 216 = .ok (.iconst 5, 1) := by decide +kernel
theorem dX9_token_217 : decode cX9_token 217 = .ok (.goto 4, 3) := by decide +kernel
theorem dX9_token_220 : decode cX9_token 220 = .ok (.iconst 2, 1) := by decide +kernel
theorem dX9_token_221 : decode cX9_token 221 = .ok (.putfield 137, 3) := by decide +kernel
theorem dX9_token_224 : decode cX9_token 224 = .ok (.goto 42, 3) := by decide +kernel
theorem dX9_token_227 : decode cX9_token 227 = .ok (.aload_n 0, 1) := by decide +kernel
theorem dX9_token_228 : decode cX9_token 228 = .ok (.iload_n 3, 1) := by decide +kernel
theorem dX9_token_229 : decode cX9_token 229 = .ok (.bipush 58, 2) := by decide +kernel
theorem dX9_token_231 : decode cX9_token 231 = .ok (.if_icmp .eq 21, 3) := by decide +kernel
theorem dX9_token_234 : decode cX9_token 234 = .ok (.iload_n 3, 1) := by decide +kernel
theorem dX9_token_235 : decode cX9_token 235 = .ok (.bipush 59, 2) := by decide +kernel
theorem dX9_token_237 : decode cX9_token 237 = .ok (.if_icmp .eq 15, 3) := by decide +kernel
theorem dX9_token_240 : decode cX9_token 240 = .ok (.iload_n 3, 1) := by decide +kernel
theorem dX9_token_241 : decode cX9_token 241 = .ok (.bipush 61, 2) := by decide +kernel
theorem dX9_token_243 : decode cX9_token 243 = .ok (.if_icmp .eq 9, 3) := by decide +kernel
theorem dX9_token_246 : decode cX9_token 246 = .ok (.iload_n 3, 1) := by decide +kernel
theorem dX9_token_247 : decode cX9_token 247 = .ok (.bipush 45, 2) := by decide +kernel
theorem dX9_token_249 : decode cX9_token 249 = .ok (.if_icmp .ne 7, 3) := by decide +kernel
theorem dX9_token_252 : decode cX9_token 252 = .ok (.iconst 3, 1) := by decide +kernel
theorem dX9_token_253 : decode cX9_token 253 = .ok (.goto 4, 3) := by decide +kernel
theorem dX9_token_256 : decode cX9_token 256 = .ok (.iconst 5, 1) := by decide +kernel
theorem dX9_token_257 : decode cX9_token 257 = .ok (.putfield 137, 3) := by decide +kernel
theorem dX9_token_260 : decode cX9_token 260 = .ok (.aload_n 0, 1) := by decide +kernel
theorem dX9_token_261 : decode cX9_token 261 = .ok (.iload_n 3, 1) := by decide +kernel
theorem dX9_token_262 : decode cX9_token 262 = .ok (.i2l, 1) := by decide +kernel
theorem dX9_token_263 : decode cX9_token 263 = .ok (.putfield 133, 3) := by decide +kernel
theorem dX9_token_266 : decode cX9_token 266 = .ok (.aload_n 0, 1) := by decide +kernel
theorem dX9_token_267 : decode cX9_token 267 = .ok (.iload_n 2, 1) := by decide +kernel
theorem dX9_token_268 : decode cX9_token 268 = .ok (.putfield 127, 3) := by decide +kernel
theorem dX9_token_271 : decode cX9_token 271 = .ok (.return_, 1) := by decide +kernel
theorem dX9_stop_0 : decode cX9_stop 0 = .ok (.aload_n 0, 1) := by decide +kernel
theorem dX9_stop_1 : decode cX9_stop 1 = .ok (.iload_n 1, 1) := by decide +kernel
theorem dX9_stop_2 : decode cX9_stop 2 = .ok (.putfield 147, 3) := by decide +kernel
theorem dX9_stop_5 : decode cX9_stop 5 = .ok (.aload_n 0, 1) := by decide +kernel
theorem dX9_stop_6 : decode cX9_stop 6 = .ok (.iload_n 2, 1) := by decide +kernel
theorem dX9_stop_7 : decode cX9_stop 7 = .ok (.putfield 92, 3) := by decide +kernel
theorem dX9_stop_10 : decode cX9_stop 10 = .ok (.aload_n 0, 1) := by decide +kernel
theorem dX9_stop_11 : decode cX9_stop 11 = .ok (.iconst 1, 1) := by decide +kernel
theorem dX9_stop_12 : decode cX9_stop 12 = .ok (.putfield 150, 3) := by decide +kernel
theorem dX9_stop_15 : decode cX9_stop 15 = .ok (.iconst 0, 1) := by decide +kernel
theorem dX9_stop_16 : decode cX9_stop 16 = .ok (.ireturn, 1) := by decide +kernel
theorem dX9_isWord_0 : decode cX9_isWord 0 = .ok (.aload_n 0, 1) := by decide +kernel
theorem dX9_isWord_1 : decode cX9_isWord 1 = .ok (.getfield 137, 3) := by decide +kernel
theorem dX9_isWord_4 : decode cX9_isWord 4 = .ok (.iconst 1, 1) := by decide +kernel
theorem dX9_isWord_5 : decode cX9_isWord 5 = .ok (.if_icmp .ne 16, 3) := by decide +kernel
theorem dX9_isWord_8 : decode cX9_isWord 8 = .ok (.aload_n 0, 1) := by decide +kernel
theorem dX9_isWord_9 : decode cX9_isWord 9 = .ok (.getfield 133, 3) := by decide +kernel
theorem dX9_isWord_12 : decode cX9_isWord 12 = .ok (.lload_n 1, 1) := by decide +kernel
theorem dX9_isWord_13 : decode cX9_isWord 13 = .ok (.lcmp, 1) := by decide +kernel
theorem dX9_isWord_14 : decode cX9_isWord 14 = .ok (.ifCond .ne 7, 3) := by decide +kernel
theorem dX9_isWord_17 : decode cX9_isWord 17 = .ok (.iconst 1, 1) := by decide +kernel
theorem dX9_isWord_18 : decode cX9_isWord 18 = .ok (.goto 4, 3) := by decide +kernel
theorem dX9_isWord_21 : decode cX9_isWord 21 = .ok (.iconst 0, 1) := by decide +kernel
theorem dX9_isWord_22 : decode cX9_isWord 22 = .ok (.ireturn, 1) := by decide +kernel
set_option maxRecDepth 20000 in
theorem ggX9_read_X9_token : GoodIn wsX9_read wsX9_token := goodIn_r _ [19, 4, 8, 20, 21, 22, 23, 24, 25, 26, 18, 27, 28, 29, 30, 31, 32, 33, 34, 35, 136, 137, 138, 139, 140, 141, 142, 143, 144, 145, 146, 147, 148, 149, 150, 151, 152, 153, 154, 155, 156, 157, 158, 159, 160, 161, 162, 163, 164, 165, 166, 167, 168, 169, 170, 171, 172, 173, 174, 175, 176, 177, 178, 179, 180, 181, 182, 183, 184, 185, 186, 187] (by decide +kernel) (by decide +kernel)
set_option maxRecDepth 20000 in
theorem gX9_read_X9_token : GoodIn wsX9_read (wsV RX9 161 RX9 yX9_token wsX9_token) := goodIn_app (goodIn_of _ (by decide +kernel)) ggX9_read_X9_token
set_option maxRecDepth 20000 in
theorem ggX9_read_X9_text : GoodIn wsX9_read wsX9_text := goodIn_r _ [39, 40, 41, 42, 43, 7, 44, 21, 6, 23, 45, 46, 47, 18, 48, 22, 49, 50, 51, 52, 5, 53, 54, 55, 56, 1, 2, 3, 15, 16, 17, 19, 4, 8, 20, 24, 25, 26, 27, 28, 29, 30, 31, 32, 33, 34, 35, 57, 58, 59, 60, 61, 62, 63, 64, 65, 66, 67, 68, 69, 70, 71, 72, 73, 74, 75, 76, 77, 78, 79, 80, 81, 82, 83, 84, 85, 86, 87, 88, 89, 90, 91, 92, 93, 94, 95, 96, 97, 98, 99, 100, 101, 102, 103, 104, 105, 106, 107, 108, 109, 110, 111, 112, 113, 114, 115, 116, 117, 118, 119, 120, 121, 122, 123, 124, 125, 126, 127, 136, 137, 138, 139, 140, 141, 142, 143, 144, 145, 146, 147, 148, 149, 150, 151, 152, 153, 154, 155, 156, 157, 158, 159, 160, 161, 162, 163, 164, 165, 166, 167, 168, 169, 170, 171, 172, 173, 174, 175, 176, 177, 178, 179, 180, 181, 182, 183, 184, 185, 186, 187] (by decide +kernel) (by decide +kernel)
set_option maxRecDepth 20000 in
theorem gX9_read_X9_text : GoodIn wsX9_read (wsV RX9 217 RX9 yX9_text wsX9_text) := goodIn_app (goodIn_of _ (by decide +kernel)) ggX9_read_X9_text
theorem dX9_read_0 : decode cX9_read 0 = .ok (.aload_n 0, 1) := by decide +kernel
theorem dX9_read_1 : decode cX9_read 1 = .ok (.iconst 0, 1) := by decide +kernel
theorem dX9_read_2 : decode cX9_read 2 = .ok (.putfield 147, 3) := by decide +kernel
theorem dX9_read_5 : decode cX9_read 5 = .ok (.aload_n 0, 1) := by decide +kernel
theorem dX9_read_6 : decode cX9_read 6 = .ok (.iconst (-1), 1) := by decide +kernel
theorem dX9_read_7 : decode cX9_read 7 = .ok (.putfield 92, 3) := by decide +kernel
theorem dX9_read_10 : decode cX9_read 10 = .ok (.aload_n 0, 1) := by decide +kernel
theorem dX9_read_11 : decode cX9_read 11 = .ok (.iconst 0, 1) := by decide +kernel
theorem dX9_read_12 : decode cX9_read 12 = .ok (.putfield 150, 3) := by decide +kernel
theorem dX9_read_15 : decode cX9_read 15 = .ok (.aload_n 0, 1) := by decide +kernel
theorem dX9_read_16 : decode cX9_read 16 = .ok (.iconst 0, 1) := by decide +kernel
theorem dX9_read_17 : decode cX9_read 17 = .ok (.putfield 127, 3) := by decide +kernel
theorem dX9_read_20 : decode cX9_read 20 = .ok (.aload_n 0, 1) := by decide +kernel
theorem dX9_read_21 : decode cX9_read 21 = .ok (.iconst 1, 1) := by decide +kernel
theorem dX9_read_22 : decode cX9_read 22 = .ok (.putfield 154, 3) := by decide +kernel
theorem dX9_read_25 : decode cX9_read 25 = .ok (.aload_n 0, 1) := by decide +kernel
theorem dX9_read_26 : decode cX9_read 26 = .ok (.invokevirtual 161, 3) := by decide +kernel
theorem dX9_read_29 : decode cX9_read 29 = .ok (.aload_n 0, 1) := by decide +kernel
theorem dX9_read_30 : decode cX9_read 30 = .ok (.getfield 7, 3) := by decide +kernel
theorem dX9_read_33 : decode cX9_read 33 = .ok (.iconst 1, 1) := by decide +kernel
theorem dX9_read_34 : decode cX9_read 34 = .ok (.iconst 0, 1) := by decide +kernel
theorem dX9_read_35 : decode cX9_read 35 = .ok (.iastore, 1) := by decide +kernel
theorem dX9_read_36 : decode cX9_read 36 = .ok (.iconst 0, 1) := by decide +kernel
theorem dX9_read_37 : decode cX9_read 37 = .ok (.istore_n 1, 1) := by decide +kernel
theorem dX9_read_38 : decode cX9_read 38 = .ok (.iload_n 1, 1) := by decide +kernel
theorem dX9_read_39 : decode cX9_read 39 = .ok (.iconst 4, 1) := by decide +kernel
theorem dX9_read_40 : decode cX9_read 40 = .ok (.if_icmp .ge 18, 3) := by decide +kernel
theorem dX9_read_43 : decode cX9_read 43 = .ok (.aload_n 0, 1) := by decide +kernel
theorem dX9_read_44 : decode cX9_read 44 = .ok (.getfield 40, 3) := by decide +kernel
theorem dX9_read_47 : decode cX9_read 47 = .ok (.iconst 4, 1) := by decide +kernel
theorem dX9_read_48 : decode cX9_read 48 = .ok (.iload_n 1, 1) := by decide +kernel
theorem dX9_read_49 : decode cX9_read 49 = .ok (.iadd, 1) := by decide +kernel
theorem dX9_read_50 : decode cX9_read 50 = .ok (.iconst 0, 1) := by decide +kernel
theorem dX9_read_51 : decode cX9_read 51 = .ok (.iastore, 1) := by decide +kernel
theorem dX9_read_52 : decode cX9_read 52 = .ok (.iinc 1 1, 3) := by decide +kernel
theorem dX9_read_55 : decode cX9_read 55 = .ok (.goto (-17), 3) := by decide +kernel
theorem dX9_read_58 : decode cX9_read 58 = .ok (.aload_n 0, 1) := by decide +kernel
theorem dX9_read_59 : decode cX9_read 59 = .ok (.invokevirtual 217, 3) := by decide +kernel
theorem dX9_read_62 : decode cX9_read 62 = .ok (.ifCond .eq 14, 3) := by decide +kernel
theorem dX9_read_65 : decode cX9_read 65 = .ok (.aload_n 0, 1) := by decide +kernel
theorem dX9_read_66 : decode cX9_read 66 = .ok (.getfield 147, 3) := by decide +kernel
theorem dX9_read_69 : decode cX9_read 69 = .ok (.ifCond .ne 7, 3) := by decide +kernel
theorem dX9_read_72 : decode cX9_read 72 = .ok (.iconst 1, 1) := by decide +kernel
theorem dX9_read_73 : decode cX9_read 73 = .ok (.goto 4, 3) := by decide +kernel
theorem dX9_read_76 : decode cX9_read 76 = .ok (.iconst 0, 1) := by decide +kernel
theorem dX9_read_77 : decode cX9_read 77 = .ok (.istore_n 1, 1) := by decide +kernel
theorem dX9_read_78 : decode cX9_read 78 = .ok (.aload_n 0, 1) := by decide +kernel
theorem dX9_read_79 : decode cX9_read 79 = .ok (.iconst 0, 1) := by decide +kernel
theorem dX9_read_80 : decode cX9_read 80 = .ok (.putfield 116, 3) := by decide +kernel
theorem dX9_read_83 : decode cX9_read 83 = .ok (.iload_n 1, 1) := by decide +kernel
theorem dX9_read_84 : decode cX9_read 84 = .ok (.ifCond .ne 8, 3) := by decide +kernel
theorem dX9_read_87 : decode cX9_read 87 = .ok (.aload_n 0, 1) := by decide +kernel
theorem dX9_read_88 : decode cX9_read 88 = .ok (.getfield 147, 3) := by decide +kernel
theorem dX9_read_91 : decode cX9_read 91 = .ok (.ireturn, 1) := by decide +kernel
theorem dX9_read_92 : decode cX9_read 92 = .ok (.aload_n 0, 1) := by decide +kernel
theorem dX9_read_93 : decode cX9_read 93 = .ok (.iconst 1, 1) := by decide +kernel
theorem dX9_read_94 : decode cX9_read 94 = .ok (.iconst 0, 1) := by decide +kernel
theorem dX9_read_95 : decode cX9_read 95 = .ok (.invokevirtual 220, 3) := by decide +kernel
theorem dX9_read_98 : decode cX9_read 98 = .ok (.iconst 0, 1) := by decide +kernel
theorem dX9_read_99 : decode cX9_read 99 = .ok (.istore_n 2, 1) := by decide +kernel
theorem dX9_read_100 : decode cX9_read 100 = .ok (.iload_n 2, 1) := by decide +kernel
theorem dX9_read_101 : decode cX9_read 101 = .ok (.iconst 4, 1) := by decide +kernel
theorem dX9_read_102 : decode cX9_read 102 = .ok (.if_icmp .ge 23, 3) := by decide +kernel
theorem dX9_read_105 : decode cX9_read 105 = .ok (.aload_n 0, 1) := by decide +kernel
theorem dX9_read_106 : decode cX9_read 106 = .ok (.getfield 40, 3) := by decide +kernel
theorem dX9_read_109 : decode cX9_read 109 = .ok (.iload_n 2, 1) := by decide +kernel
theorem dX9_read_110 : decode cX9_read 110 = .ok (.aload_n 0, 1) := by decide +kernel
theorem dX9_read_111 : decode cX9_read 111 = .ok (.getfield 40, 3) := by decide +kernel
theorem dX9_read_114 : decode cX9_read 114 = .ok (.iconst 4, 1) := by decide +kernel
theorem dX9_read_115 : decode cX9_read 115 = .ok (.iload_n 2, 1) := by decide +kernel
theorem dX9_read_116 : decode cX9_read 116 = .ok (.iadd, 1) := by decide +kernel
theorem dX9_read_117 : decode cX9_read 117 = .ok (.iaload, 1) := by decide +kernel
theorem dX9_read_118 : decode cX9_read 118 = .ok (.iastore, 1) := by decide +kernel
theorem dX9_read_119 : decode cX9_read 119 = .ok (.iinc 2 1, 3) := by decide +kernel
theorem dX9_read_122 : decode cX9_read 122 = .ok (.goto (-22), 3) := by decide +kernel
theorem dX9_read_125 : decode cX9_read 125 = .ok (.aload_n 0, 1) := by decide +kernel
theorem dX9_read_126 : decode cX9_read 126 = .ok (.iconst 1, 1) := by decide +kernel
theorem dX9_read_127 : decode cX9_read 127 = .ok (.putfield 224, 3) := by decide +kernel
theorem dX9_read_130 : decode cX9_read 130 = .ok (.aload_n 0, 1) := by decide +kernel
theorem dX9_read_131 : decode cX9_read 131 = .ok (.iconst (-1), 1) := by decide +kernel
theorem dX9_read_132 : decode cX9_read 132 = .ok (.putfield 84, 3) := by decide +kernel
theorem dX9_read_135 : decode cX9_read 135 = .ok (.aload_n 0, 1) := by decide +kernel
theorem dX9_read_136 : decode cX9_read 136 = .ok (.iconst 0, 1) := by decide +kernel
theorem dX9_read_137 : decode cX9_read 137 = .ok (.putfield 227, 3) := by decide +kernel
theorem dX9_read_140 : decode cX9_read 140 = .ok (.iconst 0, 1) := by decide +kernel
theorem dX9_read_141 : decode cX9_read 141 = .ok (.istore_n 2, 1) := by decide +kernel
theorem dX9_read_142 : decode cX9_read 142 = .ok (.iload_n 2, 1) := by decide +kernel
theorem dX9_read_143 : decode cX9_read 143 = .ok (.iconst 3, 1) := by decide +kernel
theorem dX9_read_144 : decode cX9_read 144 = .ok (.if_icmp .ge 16, 3) := by decide +kernel
theorem dX9_read_147 : decode cX9_read 147 = .ok (.aload_n 0, 1) := by decide +kernel
theorem dX9_read_148 : decode cX9_read 148 = .ok (.getfield 66, 3) := by decide +kernel
theorem dX9_read_151 : decode cX9_read 151 = .ok (.iload_n 2, 1) := by decide +kernel
theorem dX9_read_152 : decode cX9_read 152 = .ok (.iconst 0, 1) := by decide +kernel
theorem dX9_read_153 : decode cX9_read 153 = .ok (.bastore, 1) := by decide +kernel
theorem dX9_read_154 : decode cX9_read 154 = .ok (.iinc 2 1, 3) := by decide +kernel
theorem dX9_read_157 : decode cX9_read 157 = .ok (.goto (-15), 3) := by decide +kernel
theorem dX9_read_160 : decode cX9_read 160 = .ok (.aload_n 0, 1) := by decide +kernel
theorem dX9_read_161 : decode cX9_read 161 = .ok (.iconst (-1), 1) := by decide +kernel
theorem dX9_read_162 : decode cX9_read 162 = .ok (.putfield 98, 3) := by decide +kernel
theorem dX9_read_165 : decode cX9_read 165 = .ok (.aload_n 0, 1) := by decide +kernel
theorem dX9_read_166 : decode cX9_read 166 = .ok (.iconst (-1), 1) := by decide +kernel
theorem dX9_read_167 : decode cX9_read 167 = .ok (.putfield 104, 3) := by decide +kernel
theorem dX9_read_170 : decode cX9_read 170 = .ok (.iconst 0, 1) := by decide +kernel
theorem dX9_read_171 : decode cX9_read 171 = .ok (.ireturn, 1) := by decide +kernel
set_option maxRecDepth 20000 in
theorem ggX9_text_X9_isWord : GoodIn wsX9_text wsX9_isWord := goodIn_r _ [14, 9, 15, 118, 119, 120, 121, 122, 123, 124, 125, 126, 127, 128, 129, 130, 131, 132, 133, 134, 135, 136, 137, 138, 139, 140, 141, 142, 143, 144, 145, 146, 147, 148, 149, 150, 151, 152, 153, 154, 155, 156, 157, 158, 159, 160, 161, 162, 163, 164, 165, 166, 167, 168, 169] (by decide +kernel) (by decide +kernel)
set_option maxRecDepth 20000 in
theorem gX9_text_X9_isWord : GoodIn wsX9_text (wsV RX9 168 RX9 yX9_isWord wsX9_isWord) := goodIn_app (goodIn_of _ (by decide +kernel)) ggX9_text_X9_isWord
set_option maxRecDepth 20000 in
theorem ggX9_text_X9_stop : GoodIn wsX9_text wsX9_stop := goodIn_r _ [24, 25, 26, 27, 118, 119, 120, 121, 122, 123, 124, 125, 126, 127, 128, 129, 130, 131, 132, 133, 134, 135, 136, 137, 138, 139, 140, 141, 142, 143, 144, 145, 146, 147, 148, 149, 150, 151, 152, 153, 154, 155, 156, 157, 158, 159, 160, 161, 162, 163, 164, 165, 166, 167, 168, 169] (by decide +kernel) (by decide +kernel)
set_option maxRecDepth 20000 in
theorem gX9_text_X9_stop : GoodIn wsX9_text (wsV RX9 157 RX9 yX9_stop wsX9_stop) := goodIn_app (goodIn_of _ (by decide +kernel)) ggX9_text_X9_stop
theorem dX9_text_0 : decode cX9_text 0 = .ok (.iconst 0, 1) := by decide +kernel
theorem dX9_text_1 : decode cX9_text 1 = .ok (.istore_n 1, 1) := by decide +kernel
theorem dX9_text_2 : decode cX9_text 2 = .ok (.aload_n 0, 1) := by decide +kernel
theorem dX9_text_3 : decode cX9_text 3 = .ok (.ldc2_w 230, 3) := by decide +kernel
theorem dX9_text_6 : decode cX9_text 6 = .ok (.invokevirtual 168, 3) := by decide +kernel
theorem dX9_text_9 : decode cX9_text 9 = .ok (.ifCond .eq 105, 3) := by decide +kernel
theorem dX9_text_12 : decode cX9_text 12 = .ok (.aload_n 0, 1) := by decide +kernel
theorem dX9_text_13 : decode cX9_text 13 = .ok (.bipush 72, 2) := by decide +kernel
theorem dX9_text_15 : decode cX9_text 15 = .ok (.putfield 186, 3) := by decide +kernel
theorem dX9_text_18 : decode cX9_text 18 = .ok (.aload_n 0, 1) := by decide +kernel
theorem dX9_text_19 : decode cX9_text 19 = .ok (.invokevirtual 164, 3) := by decide +kernel
theorem dX9_text_22 : decode cX9_text 22 = .ok (.ifCond .eq 10, 3) := by decide +kernel
theorem dX9_text_25 : decode cX9_text 25 = .ok (.aload_n 0, 1) := by decide +kernel
theorem dX9_text_26 : decode cX9_text 26 = .ok (.invokevirtual 232, 3) := by decide +kernel
theorem dX9_text_29 : decode cX9_text 29 = .ok (.ifCond .ne 5, 3) := by decide +kernel
theorem dX9_text_32 : decode cX9_text 32 = .ok (.iconst 0, 1) := by decide +kernel
theorem dX9_text_33 : decode cX9_text 33 = .ok (.ireturn, 1) := by decide +kernel
theorem dX9_text_34 : decode cX9_text 34 = .ok (.aload_n 0, 1) := by decide +kernel
theorem dX9_text_35 : decode cX9_text 35 = .ok (.getfield 175, 3) := by decide +kernel
theorem dX9_text_38 : decode cX9_text 38 = .ok (.istore_n 2, 1) := by decide +kernel
theorem dX9_text_39 : decode cX9_text 39 = .ok (.iload_n 2, 1) := by decide +kernel
theorem dX9_text_40 : decode cX9_text 40 = .ok (.iconst 4, 1) := by decide +kernel
theorem dX9_text_41 : decode cX9_text 41 = .ok (.if_icmp .ge 20, 3) := by decide +kernel
theorem dX9_text_44 : decode cX9_text 44 = .ok (.iload_n 1, 1) := by decide +kernel
theorem dX9_text_45 : decode cX9_text 45 = .ok (.iload_n 2, 1) := by decide +kernel
theorem dX9_text_46 : decode cX9_text 46 = .ok (.ishr, 1) := by decide +kernel
theorem dX9_text_47 : decode cX9_text 47 = .ok (.iconst 1, 1) := by decide +kernel
theorem dX9_text_48 : decode cX9_text 48 = .ok (.iand, 1) := by decide +kernel
theorem dX9_text_49 : decode cX9_text 49 = .ok (.iconst 1, 1) := by decide +kernel
theorem dX9_text_50 : decode cX9_text 50 = .ok (.if_icmp .ne 11, 3) := by decide +kernel
theorem dX9_text_53 : decode cX9_text 53 = .ok (.aload_n 0, 1) := by decide +kernel
theorem dX9_text_54 : decode cX9_text 54 = .ok (.aload_n 0, 1) := by decide +kernel
theorem dX9_text_55 : decode cX9_text 55 = .ok (.getfield 172, 3) := by decide +kernel
theorem dX9_text_58 : decode cX9_text 58 = .ok (.invokevirtual 183, 3) := by decide +kernel
theorem dX9_text_61 : decode cX9_text 61 = .ok (.aload_n 0, 1) := by decide +kernel
theorem dX9_text_62 : decode cX9_text 62 = .ok (.bipush 61, 2) := by decide +kernel
theorem dX9_text_64 : decode cX9_text 64 = .ok (.invokevirtual 235, 3) := by decide +kernel
theorem dX9_text_67 : decode cX9_text 67 = .ok (.ifCond .eq 19, 3) := by decide +kernel
theorem dX9_text_70 : decode cX9_text 70 = .ok (.aload_n 0, 1) := by decide +kernel
theorem dX9_text_71 : decode cX9_text 71 = .ok (.invokevirtual 196, 3) := by decide +kernel
theorem dX9_text_74 : decode cX9_text 74 = .ok (.ifCond .eq 12, 3) := by decide +kernel
theorem dX9_text_77 : decode cX9_text 77 = .ok (.aload_n 0, 1) := by decide +kernel
theorem dX9_text_78 : decode cX9_text 78 = .ok (.bipush 59, 2) := by decide +kernel
theorem dX9_text_80 : decode cX9_text 80 = .ok (.invokevirtual 235, 3) := by decide +kernel
theorem dX9_text_83 : decode cX9_text 83 = .ok (.ifCond .ne 5, 3) := by decide +kernel
theorem dX9_text_86 : decode cX9_text 86 = .ok (.iconst 0, 1) := by decide +kernel
theorem dX9_text_87 : decode cX9_text 87 = .ok (.ireturn, 1) := by decide +kernel
theorem dX9_text_88 : decode cX9_text 88 = .ok (.iload_n 2, 1) := by decide +kernel
theorem dX9_text_89 : decode cX9_text 89 = .ok (.iconst 4, 1) := by decide +kernel
theorem dX9_text_90 : decode cX9_text 90 = .ok (.if_icmp .ge 21, 3) := by decide +kernel
theorem dX9_text_93 : decode cX9_text 93 = .ok (.iload_n 1, 1) := by decide +kernel
theorem dX9_text_94 : decode cX9_text 94 = .ok (.iconst 1, 1) := by decide +kernel
theorem dX9_text_95 : decode cX9_text 95 = .ok (.iload_n 2, 1) := by decide +kernel
theorem dX9_text_96 : decode cX9_text 96 = .ok (.ishl, 1) := by decide +kernel
theorem dX9_text_97 : decode cX9_text 97 = .ok (.ior, 1) := by decide +kernel
theorem dX9_text_98 : decode cX9_text 98 = .ok (.istore_n 1, 1) := by decide +kernel
theorem dX9_text_99 : decode cX9_text 99 = .ok (.aload_n 0, 1) := by decide +kernel
theorem dX9_text_100 : decode cX9_text 100 = .ok (.getfield 40, 3) := by decide +kernel
theorem dX9_text_103 : decode cX9_text 103 = .ok (.iconst 4, 1) := by decide +kernel
theorem dX9_text_104 : decode cX9_text 104 = .ok (.iload_n 2, 1) := by decide +kernel
theorem dX9_text_105 : decode cX9_text 105 = .ok (.iadd, 1) := by decide +kernel
theorem dX9_text_106 : decode cX9_text 106 = .ok (.aload_n 0, 1) := by decide +kernel
theorem dX9_text_107 : decode cX9_text 107 = .ok (.getfield 175, 3) := by decide +kernel
theorem dX9_text_110 : decode cX9_text 110 = .ok (.iastore, 1) := by decide +kernel
theorem dX9_text_111 : decode cX9_text 111 = .ok (.goto (-109), 3) := by decide +kernel
theorem dX9_text_114 : decode cX9_text 114 = .ok (.iconst 1, 1) := by decide +kernel
theorem dX9_text_115 : decode cX9_text 115 = .ok (.istore_n 2, 1) := by decide +kernel
theorem dX9_text_116 : decode cX9_text 116 = .ok (.iload_n 2, 1) := by decide +kernel
theorem dX9_text_117 : decode cX9_text 117 = .ok (.ifCond .eq 78, 3) := by decide +kernel
theorem dX9_text_120 : decode cX9_text 120 = .ok (.aload_n 0, 1) := by decide +kernel
theorem dX9_text_121 : decode cX9_text 121 = .ok (.ldc2_w 238, 3) := by decide +kernel
theorem dX9_text_124 : decode cX9_text 124 = .ok (.invokevirtual 168, 3) := by decide +kernel
theorem dX9_text_127 : decode cX9_text 127 = .ok (.ifCond .ne 13, 3) := by decide +kernel
theorem dX9_text_130 : decode cX9_text 130 = .ok (.aload_n 0, 1) := by decide +kernel
theorem dX9_text_131 : decode cX9_text 131 = .ok (.iconst 1, 1) := by decide +kernel
theorem dX9_text_132 : decode cX9_text 132 = .ok (.aload_n 0, 1) := by decide +kernel
theorem dX9_text_133 : decode cX9_text 133 = .ok (.getfield 130, 3) := by decide +kernel
theorem dX9_text_136 : decode cX9_text 136 = .ok (.invokevirtual 157, 3) := by decide +kernel
theorem dX9_text_139 : decode cX9_text 139 = .ok (.ireturn, 1) := by decide +kernel
theorem dX9_text_140 : decode cX9_text 140 = .ok (.aload_n 0, 1) := by decide +kernel
theorem dX9_text_141 : decode cX9_text 141 = .ok (.getfield 7, 3) := by decide +kernel
theorem dX9_text_144 : decode cX9_text 144 = .ok (.iconst 1, 1) := by decide +kernel
theorem dX9_text_145 : decode cX9_text 145 = .ok (.iaload, 1) := by decide +kernel
theorem dX9_text_146 : decode cX9_text 146 = .ok (.iconst 3, 1) := by decide +kernel
theorem dX9_text_147 : decode cX9_text 147 = .ok (.if_icmp .ne 13, 3) := by decide +kernel
theorem dX9_text_150 : decode cX9_text 150 = .ok (.aload_n 0, 1) := by decide +kernel
theorem dX9_text_151 : decode cX9_text 151 = .ok (.iconst 2, 1) := by decide +kernel
theorem dX9_text_152 : decode cX9_text 152 = .ok (.aload_n 0, 1) := by decide +kernel
theorem dX9_text_153 : decode cX9_text 153 = .ok (.getfield 130, 3) := by decide +kernel
theorem dX9_text_156 : decode cX9_text 156 = .ok (.invokevirtual 157, 3) := by decide +kernel
theorem dX9_text_159 : decode cX9_text 159 = .ok (.ireturn, 1) := by decide +kernel
theorem dX9_text_160 : decode cX9_text 160 = .ok (.aload_n 0, 1) := by decide +kernel
theorem dX9_text_161 : decode cX9_text 161 = .ok (.invokevirtual 240, 3) := by decide +kernel
theorem dX9_text_164 : decode cX9_text 164 = .ok (.ifCond .ne 5, 3) := by decide +kernel
theorem dX9_text_167 : decode cX9_text 167 = .ok (.iconst 0, 1) := by decide +kernel
theorem dX9_text_168 : decode cX9_text 168 = .ok (.ireturn, 1) := by decide +kernel
theorem dX9_text_169 : decode cX9_text 169 = .ok (.aload_n 0, 1) := by decide +kernel
theorem dX9_text_170 : decode cX9_text 170 = .ok (.getfield 7, 3) := by decide +kernel
theorem dX9_text_173 : decode cX9_text 173 = .ok (.iconst 1, 1) := by decide +kernel
theorem dX9_text_174 : decode cX9_text 174 = .ok (.dup2, 1) := by decide +kernel
theorem dX9_text_175 : decode cX9_text 175 = .ok (.iaload, 1) := by decide +kernel
theorem dX9_text_176 : decode cX9_text 176 = .ok (.iconst 1, 1) := by decide +kernel
theorem dX9_text_177 : decode cX9_text 177 = .ok (.iadd, 1) := by decide +kernel
theorem dX9_text_178 : decode cX9_text 178 = .ok (.iastore, 1) := by decide +kernel
theorem dX9_text_179 : decode cX9_text 179 = .ok (.aload_n 0, 1) := by decide +kernel
theorem dX9_text_180 : decode cX9_text 180 = .ok (.getfield 137, 3) := by decide +kernel
theorem dX9_text_183 : decode cX9_text 183 = .ok (.ifCond .eq 7, 3) := by decide +kernel
theorem dX9_text_186 : decode cX9_text 186 = .ok (.iconst 1, 1) := by decide +kernel
theorem dX9_text_187 : decode cX9_text 187 = .ok (.goto 4, 3) := by decide +kernel
theorem dX9_text_190 : decode cX9_text 190 = .ok (.iconst 0, 1) := by decide +kernel
theorem dX9_text_191 : decode cX9_text 191 = .ok (.istore_n 2, 1) := by decide +kernel
theorem dX9_text_192 : decode cX9_text 192 = .ok (.goto (-76), 3) := by decide +kernel
theorem dX9_text_195 : decode cX9_text 195 = .ok (.iconst 1, 1) := by decide +kernel
theorem dX9_text_196 : decode cX9_text 196 = .ok (.ireturn, 1) := by decide +kernel
theorem dX9_place_0 : decode cX9_place 0 = .ok (.aload_n 0, 1) := by decide +kernel
theorem dX9_place_1 : decode cX9_place 1 = .ok (.getfield 92, 3) := by decide +kernel
theorem dX9_place_4 : decode cX9_place 4 = .ok (.ireturn, 1) := by decide +kernel
theorem dX9_ins_0 : decode cX9_ins 0 = .ok (.aload_n 0, 1) := by decide +kernel
theorem dX9_ins_1 : decode cX9_ins 1 = .ok (.getfield 224, 3) := by decide +kernel
theorem dX9_ins_4 : decode cX9_ins 4 = .ok (.ifCond .eq 31, 3) := by decide +kernel
theorem dX9_ins_7 : decode cX9_ins 7 = .ok (.iload_n 1, 1) := by decide +kernel
theorem dX9_ins_8 : decode cX9_ins 8 = .ok (.ifCond .lt 27, 3) := by decide +kernel
theorem dX9_ins_11 : decode cX9_ins 11 = .ok (.iload_n 1, 1) := by decide +kernel
theorem dX9_ins_12 : decode cX9_ins 12 = .ok (.aload_n 0, 1) := by decide +kernel
theorem dX9_ins_13 : decode cX9_ins 13 = .ok (.getfield 7, 3) := by decide +kernel
theorem dX9_ins_16 : decode cX9_ins 16 = .ok (.iconst 0, 1) := by decide +kernel
theorem dX9_ins_17 : decode cX9_ins 17 = .ok (.iaload, 1) := by decide +kernel
theorem dX9_ins_18 : decode cX9_ins 18 = .ok (.if_icmp .ge 17, 3) := by decide +kernel
theorem dX9_ins_21 : decode cX9_ins 21 = .ok (.iload_n 2, 1) := by decide +kernel
theorem dX9_ins_22 : decode cX9_ins 22 = .ok (.ifCond .lt 13, 3) := by decide +kernel
theorem dX9_ins_25 : decode cX9_ins 25 = .ok (.iload_n 2, 1) := by decide +kernel
theorem dX9_ins_26 : decode cX9_ins 26 = .ok (.aload_n 0, 1) := by decide +kernel
theorem dX9_ins_27 : decode cX9_ins 27 = .ok (.getfield 13, 3) := by decide +kernel
theorem dX9_ins_30 : decode cX9_ins 30 = .ok (.iload_n 1, 1) := by decide +kernel
theorem dX9_ins_31 : decode cX9_ins 31 = .ok (.iaload, 1) := by decide +kernel
theorem dX9_ins_32 : decode cX9_ins 32 = .ok (.if_icmp .lt 5, 3) := by decide +kernel
theorem dX9_ins_35 : decode cX9_ins 35 = .ok (.iconst (-1), 1) := by decide +kernel
theorem dX9_ins_36 : decode cX9_ins 36 = .ok (.ireturn, 1) := by decide +kernel
theorem dX9_ins_37 : decode cX9_ins 37 = .ok (.bipush 12, 2) := by decide +kernel
theorem dX9_ins_39 : decode cX9_ins 39 = .ok (.iload_n 1, 1) := by decide +kernel
theorem dX9_ins_40 : decode cX9_ins 40 = .ok (.imul, 1) := by decide +kernel
theorem dX9_ins_41 : decode cX9_ins 41 = .ok (.iload_n 2, 1) := by decide +kernel
theorem dX9_ins_42 : decode cX9_ins 42 = .ok (.iadd, 1) := by decide +kernel
theorem dX9_ins_43 : decode cX9_ins 43 = .ok (.istore 4, 2) := by decide +kernel
theorem dX9_ins_45 : decode cX9_ins 45 = .ok (.iload_n 3, 1) := by decide +kernel
theorem dX9_ins_46 : decode cX9_ins 46 = .ok (.tableswitch 110 0 7 #[46, 54, 62, 70, 78, 86, 94, 102], 46) := by decide +kernel
theorem dX9_ins_92 : decode cX9_ins 92 = .ok (.aload_n 0, 1) := by decide +kernel
theorem dX9_ins_93 : decode cX9_ins 93 = .ok (.getfield 16, 3) := by decide +kernel
theorem dX9_ins_96 : decode cX9_ins 96 = .ok (.iload 4, 2) := by decide +kernel
theorem dX9_ins_98 : decode cX9_ins 98 = .ok (.iaload, 1) := by decide +kernel
theorem dX9_ins_99 : decode cX9_ins 99 = .ok (.ireturn, 1) := by decide +kernel
theorem dX9_ins_100 : decode cX9_ins 100 = .ok (.aload_n 0, 1) := by decide +kernel
theorem dX9_ins_101 : decode cX9_ins 101 = .ok (.getfield 19, 3) := by decide +kernel
theorem dX9_ins_104 : decode cX9_ins 104 = .ok (.iload 4, 2) := by decide +kernel
theorem dX9_ins_106 : decode cX9_ins 106 = .ok (.iaload, 1) := by decide +kernel
theorem dX9_ins_107 : decode cX9_ins 107 = .ok (.ireturn, 1) := by decide +kernel
theorem dX9_ins_108 : decode cX9_ins 108 = .ok (.aload_n 0, 1) := by decide +kernel
theorem dX9_ins_109 : decode cX9_ins 109 = .ok (.getfield 22, 3) := by decide +kernel
theorem dX9_ins_112 : decode cX9_ins 112 = .ok (.iload 4, 2) := by decide +kernel
theorem dX9_ins_114 : decode cX9_ins 114 = .ok (.iaload, 1) := by decide +kernel
theorem dX9_ins_115 : decode cX9_ins 115 = .ok (.ireturn, 1) := by decide +kernel
theorem dX9_ins_116 : decode cX9_ins 116 = .ok (.aload_n 0, 1) := by decide +kernel
theorem dX9_ins_117 : decode cX9_ins 117 = .ok (.getfield 25, 3) := by decide +kernel
theorem dX9_ins_120 : decode cX9_ins 120 = .ok (.iload 4, 2) := by decide +kernel
theorem dX9_ins_122 : decode cX9_ins 122 = .ok (.iaload, 1) := by decide +kernel
theorem dX9_ins_123 : decode cX9_ins 123 = .ok (.ireturn, 1) := by decide +kernel
theorem dX9_ins_124 : decode cX9_ins 124 = .ok (.aload_n 0, 1) := by decide +kernel
theorem dX9_ins_125 : decode cX9_ins 125 = .ok (.getfield 28, 3) := by decide +kernel
theorem dX9_ins_128 : decode cX9_ins 128 = .ok (.iload 4, 2) := by decide +kernel
theorem dX9_ins_130 : decode cX9_ins 130 = .ok (.iaload, 1) := by decide +kernel
theorem dX9_ins_131 : decode cX9_ins 131 = .ok (.ireturn, 1) := by decide +kernel
theorem dX9_ins_132 : decode cX9_ins 132 = .ok (.aload_n 0, 1) := by decide +kernel
theorem dX9_ins_133 : decode cX9_ins 133 = .ok (.getfield 31, 3) := by decide +kernel
theorem dX9_ins_136 : decode cX9_ins 136 = .ok (.iload 4, 2) := by decide +kernel
theorem dX9_ins_138 : decode cX9_ins 138 = .ok (.iaload, 1) := by decide +kernel
theorem dX9_ins_139 : decode cX9_ins 139 = .ok (.ireturn, 1) := by decide +kernel
theorem dX9_ins_140 : decode cX9_ins 140 = .ok (.aload_n 0, 1) := by decide +kernel
theorem dX9_ins_141 : decode cX9_ins 141 = .ok (.getfield 34, 3) := by decide +kernel
theorem dX9_ins_144 : decode cX9_ins 144 = .ok (.iload 4, 2) := by decide +kernel
theorem dX9_ins_146 : decode cX9_ins 146 = .ok (.iaload, 1) := by decide +kernel
theorem dX9_ins_147 : decode cX9_ins 147 = .ok (.ireturn, 1) := by decide +kernel
theorem dX9_ins_148 : decode cX9_ins 148 = .ok (.aload_n 0, 1) := by decide +kernel
theorem dX9_ins_149 : decode cX9_ins 149 = .ok (.getfield 37, 3) := by decide +kernel
theorem dX9_ins_152 : decode cX9_ins 152 = .ok (.iload 4, 2) := by decide +kernel
theorem dX9_ins_154 : decode cX9_ins 154 = .ok (.iaload, 1) := by decide +kernel
theorem dX9_ins_155 : decode cX9_ins 155 = .ok (.ireturn, 1) := by decide +kernel
theorem dX9_ins_156 : decode cX9_ins 156 = .ok (.iconst (-1), 1) := by decide +kernel
theorem dX9_ins_157 : decode cX9_ins 157 = .ok (.ireturn, 1) := by decide +kernel
theorem dX9_begin_0 : decode cX9_begin 0 = .ok (.aload_n 0, 1) := by decide +kernel
theorem dX9_begin_1 : decode cX9_begin 1 = .ok (.getfield 224, 3) := by decide +kernel
theorem dX9_begin_4 : decode cX9_begin 4 = .ok (.ifCond .eq 12, 3) := by decide +kernel
theorem dX9_begin_7 : decode cX9_begin 7 = .ok (.iload_n 1, 1) := by decide +kernel
theorem dX9_begin_8 : decode cX9_begin 8 = .ok (.ifCond .lt 8, 3) := by decide +kernel
theorem dX9_begin_11 : decode cX9_begin 11 = .ok (.iload_n 1, 1) := by decide +kernel
theorem dX9_begin_12 : decode cX9_begin 12 = .ok (.iconst 1, 1) := by decide +kernel
theorem dX9_begin_13 : decode cX9_begin 13 = .ok (.if_icmp .le 5, 3) := by decide +kernel
theorem dX9_begin_16 : decode cX9_begin 16 = .ok (.iconst 0, 1) := by decide +kernel
theorem dX9_begin_17 : decode cX9_begin 17 = .ok (.ireturn, 1) := by decide +kernel
theorem dX9_begin_18 : decode cX9_begin 18 = .ok (.aload_n 0, 1) := by decide +kernel
theorem dX9_begin_19 : decode cX9_begin 19 = .ok (.invokevirtual 300, 3) := by decide +kernel
theorem dX9_begin_22 : decode cX9_begin 22 = .ok (.aload_n 0, 1) := by decide +kernel
theorem dX9_begin_23 : decode cX9_begin 23 = .ok (.invokevirtual 338, 3) := by decide +kernel
theorem dX9_begin_26 : decode cX9_begin 26 = .ok (.aload_n 0, 1) := by decide +kernel
theorem dX9_begin_27 : decode cX9_begin 27 = .ok (.iload_n 1, 1) := by decide +kernel
theorem dX9_begin_28 : decode cX9_begin 28 = .ok (.putfield 84, 3) := by decide +kernel
theorem dX9_begin_31 : decode cX9_begin 31 = .ok (.aload_n 0, 1) := by decide +kernel
theorem dX9_begin_32 : decode cX9_begin 32 = .ok (.iconst 0, 1) := by decide +kernel
theorem dX9_begin_33 : decode cX9_begin 33 = .ok (.putfield 227, 3) := by decide +kernel
theorem dX9_begin_36 : decode cX9_begin 36 = .ok (.iconst 1, 1) := by decide +kernel
theorem dX9_begin_37 : decode cX9_begin 37 = .ok (.ireturn, 1) := by decide +kernel
theorem dX9_step_0 : decode cX9_step 0 = .ok (.aload_n 0, 1) := by decide +kernel
theorem dX9_step_1 : decode cX9_step 1 = .ok (.getfield 84, 3) := by decide +kernel
theorem dX9_step_4 : decode cX9_step 4 = .ok (.ifCond .ge 5, 3) := by decide +kernel
theorem dX9_step_7 : decode cX9_step 7 = .ok (.iconst 0, 1) := by decide +kernel
theorem dX9_step_8 : decode cX9_step 8 = .ok (.ireturn, 1) := by decide +kernel
theorem dX9_step_9 : decode cX9_step 9 = .ok (.aload_n 0, 1) := by decide +kernel
theorem dX9_step_10 : decode cX9_step 10 = .ok (.invokevirtual 341, 3) := by decide +kernel
theorem dX9_step_13 : decode cX9_step 13 = .ok (.aload_n 0, 1) := by decide +kernel
theorem dX9_step_14 : decode cX9_step 14 = .ok (.iconst 0, 1) := by decide +kernel
theorem dX9_step_15 : decode cX9_step 15 = .ok (.aload_n 0, 1) := by decide +kernel
theorem dX9_step_16 : decode cX9_step 16 = .ok (.getfield 84, 3) := by decide +kernel
theorem dX9_step_19 : decode cX9_step 19 = .ok (.iload_n 1, 1) := by decide +kernel
theorem dX9_step_20 : decode cX9_step 20 = .ok (.invokevirtual 310, 3) := by decide +kernel
theorem dX9_step_23 : decode cX9_step 23 = .ok (.ifCond .ne 5, 3) := by decide +kernel
theorem dX9_step_26 : decode cX9_step 26 = .ok (.iconst 0, 1) := by decide +kernel
theorem dX9_step_27 : decode cX9_step 27 = .ok (.ireturn, 1) := by decide +kernel
theorem dX9_step_28 : decode cX9_step 28 = .ok (.iconst 0, 1) := by decide +kernel
theorem dX9_step_29 : decode cX9_step 29 = .ok (.istore_n 2, 1) := by decide +kernel
theorem dX9_step_30 : decode cX9_step 30 = .ok (.iload_n 2, 1) := by decide +kernel
theorem dX9_step_31 : decode cX9_step 31 = .ok (.bipush 58, 2) := by decide +kernel
theorem dX9_step_33 : decode cX9_step 33 = .ok (.if_icmp .ge 29, 3) := by decide +kernel
theorem dX9_step_36 : decode cX9_step 36 = .ok (.aload_n 0, 1) := by decide +kernel
theorem dX9_step_37 : decode cX9_step 37 = .ok (.getfield 81, 3) := by decide +kernel
theorem dX9_step_40 : decode cX9_step 40 = .ok (.bipush 58, 2) := by decide +kernel
theorem dX9_step_42 : decode cX9_step 42 = .ok (.aload_n 0, 1) := by decide +kernel
theorem dX9_step_43 : decode cX9_step 43 = .ok (.getfield 227, 3) := by decide +kernel
theorem dX9_step_46 : decode cX9_step 46 = .ok (.imul, 1) := by decide +kernel
theorem dX9_step_47 : decode cX9_step 47 = .ok (.iload_n 2, 1) := by decide +kernel
theorem dX9_step_48 : decode cX9_step 48 = .ok (.iadd, 1) := by decide +kernel
theorem dX9_step_49 : decode cX9_step 49 = .ok (.aload_n 0, 1) := by decide +kernel
theorem dX9_step_50 : decode cX9_step 50 = .ok (.getfield 78, 3) := by decide +kernel
theorem dX9_step_53 : decode cX9_step 53 = .ok (.iload_n 2, 1) := by decide +kernel
theorem dX9_step_54 : decode cX9_step 54 = .ok (.iaload, 1) := by decide +kernel
theorem dX9_step_55 : decode cX9_step 55 = .ok (.iastore, 1) := by decide +kernel
theorem dX9_step_56 : decode cX9_step 56 = .ok (.iinc 2 1, 3) := by decide +kernel
theorem dX9_step_59 : decode cX9_step 59 = .ok (.goto (-29), 3) := by decide +kernel
theorem dX9_step_62 : decode cX9_step 62 = .ok (.aload_n 0, 1) := by decide +kernel
theorem dX9_step_63 : decode cX9_step 63 = .ok (.dup, 1) := by decide +kernel
theorem dX9_step_64 : decode cX9_step 64 = .ok (.getfield 227, 3) := by decide +kernel
theorem dX9_step_67 : decode cX9_step 67 = .ok (.iconst 1, 1) := by decide +kernel
theorem dX9_step_68 : decode cX9_step 68 = .ok (.iadd, 1) := by decide +kernel
theorem dX9_step_69 : decode cX9_step 69 = .ok (.putfield 227, 3) := by decide +kernel
theorem dX9_step_72 : decode cX9_step 72 = .ok (.aload_n 0, 1) := by decide +kernel
theorem dX9_step_73 : decode cX9_step 73 = .ok (.iconst 0, 1) := by decide +kernel
theorem dX9_step_74 : decode cX9_step 74 = .ok (.aload_n 0, 1) := by decide +kernel
theorem dX9_step_75 : decode cX9_step 75 = .ok (.getfield 84, 3) := by decide +kernel
theorem dX9_step_78 : decode cX9_step 78 = .ok (.iload_n 1, 1) := by decide +kernel
theorem dX9_step_79 : decode cX9_step 79 = .ok (.iconst 0, 1) := by decide +kernel
theorem dX9_step_80 : decode cX9_step 80 = .ok (.invokevirtual 313, 3) := by decide +kernel
theorem dX9_step_83 : decode cX9_step 83 = .ok (.aload_n 0, 1) := by decide +kernel
theorem dX9_step_84 : decode cX9_step 84 = .ok (.invokevirtual 338, 3) := by decide +kernel
theorem dX9_step_87 : decode cX9_step 87 = .ok (.iconst 1, 1) := by decide +kernel
theorem dX9_step_88 : decode cX9_step 88 = .ok (.ireturn, 1) := by decide +kernel
theorem dX9_undo_0 : decode cX9_undo 0 = .ok (.aload_n 0, 1) := by decide +kernel
theorem dX9_undo_1 : decode cX9_undo 1 = .ok (.getfield 84, 3) := by decide +kernel
theorem dX9_undo_4 : decode cX9_undo 4 = .ok (.ifCond .lt 10, 3) := by decide +kernel
theorem dX9_undo_7 : decode cX9_undo 7 = .ok (.aload_n 0, 1) := by decide +kernel
theorem dX9_undo_8 : decode cX9_undo 8 = .ok (.getfield 227, 3) := by decide +kernel
theorem dX9_undo_11 : decode cX9_undo 11 = .ok (.ifCond .ne 5, 3) := by decide +kernel
theorem dX9_undo_14 : decode cX9_undo 14 = .ok (.iconst 0, 1) := by decide +kernel
theorem dX9_undo_15 : decode cX9_undo 15 = .ok (.ireturn, 1) := by decide +kernel
theorem dX9_undo_16 : decode cX9_undo 16 = .ok (.aload_n 0, 1) := by decide +kernel
theorem dX9_undo_17 : decode cX9_undo 17 = .ok (.dup, 1) := by decide +kernel
theorem dX9_undo_18 : decode cX9_undo 18 = .ok (.getfield 227, 3) := by decide +kernel
theorem dX9_undo_21 : decode cX9_undo 21 = .ok (.iconst 1, 1) := by decide +kernel
theorem dX9_undo_22 : decode cX9_undo 22 = .ok (.isub, 1) := by decide +kernel
theorem dX9_undo_23 : decode cX9_undo 23 = .ok (.putfield 227, 3) := by decide +kernel
theorem dX9_undo_26 : decode cX9_undo 26 = .ok (.iconst 0, 1) := by decide +kernel
theorem dX9_undo_27 : decode cX9_undo 27 = .ok (.istore_n 1, 1) := by decide +kernel
theorem dX9_undo_28 : decode cX9_undo 28 = .ok (.iload_n 1, 1) := by decide +kernel
theorem dX9_undo_29 : decode cX9_undo 29 = .ok (.bipush 58, 2) := by decide +kernel
theorem dX9_undo_31 : decode cX9_undo 31 = .ok (.if_icmp .ge 29, 3) := by decide +kernel
theorem dX9_undo_34 : decode cX9_undo 34 = .ok (.aload_n 0, 1) := by decide +kernel
theorem dX9_undo_35 : decode cX9_undo 35 = .ok (.getfield 78, 3) := by decide +kernel
theorem dX9_undo_38 : decode cX9_undo 38 = .ok (.iload_n 1, 1) := by decide +kernel
theorem dX9_undo_39 : decode cX9_undo 39 = .ok (.aload_n 0, 1) := by decide +kernel
theorem dX9_undo_40 : decode cX9_undo 40 = .ok (.getfield 81, 3) := by decide +kernel
theorem dX9_undo_43 : decode cX9_undo 43 = .ok (.bipush 58, 2) := by decide +kernel
theorem dX9_undo_45 : decode cX9_undo 45 = .ok (.aload_n 0, 1) := by decide +kernel
theorem dX9_undo_46 : decode cX9_undo 46 = .ok (.getfield 227, 3) := by decide +kernel
theorem dX9_undo_49 : decode cX9_undo 49 = .ok (.imul, 1) := by decide +kernel
theorem dX9_undo_50 : decode cX9_undo 50 = .ok (.iload_n 1, 1) := by decide +kernel
theorem dX9_undo_51 : decode cX9_undo 51 = .ok (.iadd, 1) := by decide +kernel
theorem dX9_undo_52 : decode cX9_undo 52 = .ok (.iaload, 1) := by decide +kernel
theorem dX9_undo_53 : decode cX9_undo 53 = .ok (.iastore, 1) := by decide +kernel
theorem dX9_undo_54 : decode cX9_undo 54 = .ok (.iinc 1 1, 3) := by decide +kernel
theorem dX9_undo_57 : decode cX9_undo 57 = .ok (.goto (-29), 3) := by decide +kernel
theorem dX9_undo_60 : decode cX9_undo 60 = .ok (.iconst 1, 1) := by decide +kernel
theorem dX9_undo_61 : decode cX9_undo 61 = .ok (.ireturn, 1) := by decide +kernel
theorem dX9_isCore_0 : decode cX9_isCore 0 = .ok (.aload_n 0, 1) := by decide +kernel
theorem dX9_isCore_1 : decode cX9_isCore 1 = .ok (.getfield 84, 3) := by decide +kernel
theorem dX9_isCore_4 : decode cX9_isCore 4 = .ok (.ifCond .lt 21, 3) := by decide +kernel
theorem dX9_isCore_7 : decode cX9_isCore 7 = .ok (.iload_n 1, 1) := by decide +kernel
theorem dX9_isCore_8 : decode cX9_isCore 8 = .ok (.ifCond .lt 17, 3) := by decide +kernel
theorem dX9_isCore_11 : decode cX9_isCore 11 = .ok (.iload_n 1, 1) := by decide +kernel
theorem dX9_isCore_12 : decode cX9_isCore 12 = .ok (.aload_n 0, 1) := by decide +kernel
theorem dX9_isCore_13 : decode cX9_isCore 13 = .ok (.getfield 7, 3) := by decide +kernel
theorem dX9_isCore_16 : decode cX9_isCore 16 = .ok (.iconst 0, 1) := by decide +kernel
theorem dX9_isCore_17 : decode cX9_isCore 17 = .ok (.iaload, 1) := by decide +kernel
theorem dX9_isCore_18 : decode cX9_isCore 18 = .ok (.if_icmp .ge 7, 3) := by decide +kernel
theorem dX9_isCore_21 : decode cX9_isCore 21 = .ok (.iconst 1, 1) := by decide +kernel
theorem dX9_isCore_22 : decode cX9_isCore 22 = .ok (.goto 4, 3) := by decide +kernel
theorem dX9_isCore_25 : decode cX9_isCore 25 = .ok (.iconst 0, 1) := by decide +kernel
theorem dX9_isCore_26 : decode cX9_isCore 26 = .ok (.ireturn, 1) := by decide +kernel
set_option maxRecDepth 20000 in
theorem ggX9_register__X9_isCore : GoodIn wsX9_register_ wsX9_isCore := goodIn_r _ [6, 7, 8, 9, 10, 11, 12, 13, 14, 15, 16, 17, 18, 19, 20, 21, 22, 23, 24, 25, 26, 27, 28, 29, 30, 31, 32, 33, 34, 35, 36, 37, 38, 39, 40, 41, 42, 43, 44, 45, 46, 47, 48, 49, 50, 51, 52, 53, 54, 55, 56, 57, 58, 59, 60] (by decide +kernel) (by decide +kernel)
set_option maxRecDepth 20000 in
theorem gX9_register__X9_isCore : GoodIn wsX9_register_ (wsV RX9 344 RX9 yX9_isCore wsX9_isCore) := goodIn_app (goodIn_of _ (by decide +kernel)) ggX9_register__X9_isCore
theorem dX9_register__0 : decode cX9_register_ 0 = .ok (.aload_n 0, 1) := by decide +kernel
theorem dX9_register__1 : decode cX9_register_ 1 = .ok (.iload_n 1, 1) := by decide +kernel
theorem dX9_register__2 : decode cX9_register_ 2 = .ok (.invokevirtual 344, 3) := by decide +kernel
theorem dX9_register__5 : decode cX9_register_ 5 = .ok (.ifCond .eq 27, 3) := by decide +kernel
theorem dX9_register__8 : decode cX9_register_ 8 = .ok (.iload_n 2, 1) := by decide +kernel
theorem dX9_register__9 : decode cX9_register_ 9 = .ok (.ifCond .lt 23, 3) := by decide +kernel
theorem dX9_register__12 : decode cX9_register_ 12 = .ok (.iload_n 2, 1) := by decide +kernel
theorem dX9_register__13 : decode cX9_register_ 13 = .ok (.iconst 3, 1) := by decide +kernel
theorem dX9_register__14 : decode cX9_register_ 14 = .ok (.if_icmp .ge 18, 3) := by decide +kernel
theorem dX9_register__17 : decode cX9_register_ 17 = .ok (.aload_n 0, 1) := by decide +kernel
theorem dX9_register__18 : decode cX9_register_ 18 = .ok (.getfield 78, 3) := by decide +kernel
theorem dX9_register__21 : decode cX9_register_ 21 = .ok (.iconst 3, 1) := by decide +kernel
theorem dX9_register__22 : decode cX9_register_ 22 = .ok (.iconst 3, 1) := by decide +kernel
theorem dX9_register__23 : decode cX9_register_ 23 = .ok (.iload_n 1, 1) := by decide +kernel
theorem dX9_register__24 : decode cX9_register_ 24 = .ok (.imul, 1) := by decide +kernel
theorem dX9_register__25 : decode cX9_register_ 25 = .ok (.iadd, 1) := by decide +kernel
theorem dX9_register__26 : decode cX9_register_ 26 = .ok (.iload_n 2, 1) := by decide +kernel
theorem dX9_register__27 : decode cX9_register_ 27 = .ok (.iadd, 1) := by decide +kernel
theorem dX9_register__28 : decode cX9_register_ 28 = .ok (.iaload, 1) := by decide +kernel
theorem dX9_register__29 : decode cX9_register_ 29 = .ok (.goto 4, 3) := by decide +kernel
theorem dX9_register__32 : decode cX9_register_ 32 = .ok (.iconst 0, 1) := by decide +kernel
theorem dX9_register__33 : decode cX9_register_ 33 = .ok (.ireturn, 1) := by decide +kernel
theorem dX9_memory_0 : decode cX9_memory 0 = .ok (.aload_n 0, 1) := by decide +kernel
theorem dX9_memory_1 : decode cX9_memory 1 = .ok (.getfield 84, 3) := by decide +kernel
theorem dX9_memory_4 : decode cX9_memory 4 = .ok (.ifCond .lt 24, 3) := by decide +kernel
theorem dX9_memory_7 : decode cX9_memory 7 = .ok (.iload_n 1, 1) := by decide +kernel
theorem dX9_memory_8 : decode cX9_memory 8 = .ok (.ifCond .lt 20, 3) := by decide +kernel
theorem dX9_memory_11 : decode cX9_memory 11 = .ok (.iload_n 1, 1) := by decide +kernel
theorem dX9_memory_12 : decode cX9_memory 12 = .ok (.iconst 4, 1) := by decide +kernel
theorem dX9_memory_13 : decode cX9_memory 13 = .ok (.if_icmp .ge 15, 3) := by decide +kernel
theorem dX9_memory_16 : decode cX9_memory 16 = .ok (.aload_n 0, 1) := by decide +kernel
theorem dX9_memory_17 : decode cX9_memory 17 = .ok (.getfield 78, 3) := by decide +kernel
theorem dX9_memory_20 : decode cX9_memory 20 = .ok (.bipush 12, 2) := by decide +kernel
theorem dX9_memory_22 : decode cX9_memory 22 = .ok (.iload_n 1, 1) := by decide +kernel
theorem dX9_memory_23 : decode cX9_memory 23 = .ok (.iadd, 1) := by decide +kernel
theorem dX9_memory_24 : decode cX9_memory 24 = .ok (.iaload, 1) := by decide +kernel
theorem dX9_memory_25 : decode cX9_memory 25 = .ok (.goto 4, 3) := by decide +kernel
theorem dX9_memory_28 : decode cX9_memory 28 = .ok (.iconst 0, 1) := by decide +kernel
theorem dX9_memory_29 : decode cX9_memory 29 = .ok (.ireturn, 1) := by decide +kernel
set_option maxRecDepth 20000 in
theorem ggX9_next_X9_isCore : GoodIn wsX9_next wsX9_isCore := goodIn_r _ [6, 7, 8, 9, 10, 11, 12, 13, 14, 15, 16, 17, 18, 19, 20, 21, 22, 23, 24, 25, 26, 27, 28, 29, 30, 31, 32, 33, 34, 35, 36, 37, 38, 39, 40, 41, 42, 43, 44, 45, 46, 47, 48, 49, 50, 51, 52, 53, 54, 55, 56, 57, 58, 59, 60] (by decide +kernel) (by decide +kernel)
set_option maxRecDepth 20000 in
theorem gX9_next_X9_isCore : GoodIn wsX9_next (wsV RX9 344 RX9 yX9_isCore wsX9_isCore) := goodIn_app (goodIn_of _ (by decide +kernel)) ggX9_next_X9_isCore
theorem dX9_next_0 : decode cX9_next 0 = .ok (.aload_n 0, 1) := by decide +kernel
theorem dX9_next_1 : decode cX9_next 1 = .ok (.iload_n 1, 1) := by decide +kernel
theorem dX9_next_2 : decode cX9_next 2 = .ok (.invokevirtual 344, 3) := by decide +kernel
theorem dX9_next_5 : decode cX9_next 5 = .ok (.ifCond .eq 12, 3) := by decide +kernel
theorem dX9_next_8 : decode cX9_next 8 = .ok (.aload_n 0, 1) := by decide +kernel
theorem dX9_next_9 : decode cX9_next 9 = .ok (.getfield 78, 3) := by decide +kernel
theorem dX9_next_12 : decode cX9_next 12 = .ok (.iload_n 1, 1) := by decide +kernel
theorem dX9_next_13 : decode cX9_next 13 = .ok (.iaload, 1) := by decide +kernel
theorem dX9_next_14 : decode cX9_next 14 = .ok (.goto 4, 3) := by decide +kernel
theorem dX9_next_17 : decode cX9_next 17 = .ok (.iconst (-1), 1) := by decide +kernel
theorem dX9_next_18 : decode cX9_next 18 = .ok (.ireturn, 1) := by decide +kernel
set_option maxRecDepth 20000 in
theorem ggX9_store_X9_isCore : GoodIn wsX9_store wsX9_isCore := goodIn_r _ [6, 7, 8, 12, 13, 14, 15, 16, 17, 18, 19, 20, 21, 22, 23, 24, 25, 26, 27, 28, 29, 30, 31, 32, 33, 34, 35, 36, 37, 38, 39, 40, 41, 42, 43, 44, 45, 46, 47, 48, 49, 50, 51, 52, 53, 54, 55, 56, 57, 58, 59, 60, 61, 62, 63] (by decide +kernel) (by decide +kernel)
set_option maxRecDepth 20000 in
theorem gX9_store_X9_isCore : GoodIn wsX9_store (wsV RX9 344 RX9 yX9_isCore wsX9_isCore) := goodIn_app (goodIn_of _ (by decide +kernel)) ggX9_store_X9_isCore
theorem dX9_store_0 : decode cX9_store 0 = .ok (.aload_n 0, 1) := by decide +kernel
theorem dX9_store_1 : decode cX9_store 1 = .ok (.iload_n 1, 1) := by decide +kernel
theorem dX9_store_2 : decode cX9_store 2 = .ok (.invokevirtual 344, 3) := by decide +kernel
theorem dX9_store_5 : decode cX9_store 5 = .ok (.ifCond .eq 29, 3) := by decide +kernel
theorem dX9_store_8 : decode cX9_store 8 = .ok (.iload_n 2, 1) := by decide +kernel
theorem dX9_store_9 : decode cX9_store 9 = .ok (.ifCond .lt 25, 3) := by decide +kernel
theorem dX9_store_12 : decode cX9_store 12 = .ok (.iload_n 2, 1) := by decide +kernel
theorem dX9_store_13 : decode cX9_store 13 = .ok (.aload_n 0, 1) := by decide +kernel
theorem dX9_store_14 : decode cX9_store 14 = .ok (.getfield 78, 3) := by decide +kernel
theorem dX9_store_17 : decode cX9_store 17 = .ok (.iload_n 1, 1) := by decide +kernel
theorem dX9_store_18 : decode cX9_store 18 = .ok (.invokestatic 267, 3) := by decide +kernel
theorem dX9_store_21 : decode cX9_store 21 = .ok (.iaload, 1) := by decide +kernel
theorem dX9_store_22 : decode cX9_store 22 = .ok (.if_icmp .ge 12, 3) := by decide +kernel
theorem dX9_store_25 : decode cX9_store 25 = .ok (.iload_n 3, 1) := by decide +kernel
theorem dX9_store_26 : decode cX9_store 26 = .ok (.ifCond .lt 8, 3) := by decide +kernel
theorem dX9_store_29 : decode cX9_store 29 = .ok (.iload_n 3, 1) := by decide +kernel
theorem dX9_store_30 : decode cX9_store 30 = .ok (.iconst 1, 1) := by decide +kernel
theorem dX9_store_31 : decode cX9_store 31 = .ok (.if_icmp .le 5, 3) := by decide +kernel
theorem dX9_store_34 : decode cX9_store 34 = .ok (.iconst (-1), 1) := by decide +kernel
theorem dX9_store_35 : decode cX9_store 35 = .ok (.ireturn, 1) := by decide +kernel
theorem dX9_store_36 : decode cX9_store 36 = .ok (.aload_n 0, 1) := by decide +kernel
theorem dX9_store_37 : decode cX9_store 37 = .ok (.getfield 78, 3) := by decide +kernel
theorem dX9_store_40 : decode cX9_store 40 = .ok (.iload_n 1, 1) := by decide +kernel
theorem dX9_store_41 : decode cX9_store 41 = .ok (.invokestatic 267, 3) := by decide +kernel
theorem dX9_store_44 : decode cX9_store 44 = .ok (.iconst 1, 1) := by decide +kernel
theorem dX9_store_45 : decode cX9_store 45 = .ok (.iadd, 1) := by decide +kernel
theorem dX9_store_46 : decode cX9_store 46 = .ok (.iconst 2, 1) := by decide +kernel
theorem dX9_store_47 : decode cX9_store 47 = .ok (.iload_n 2, 1) := by decide +kernel
theorem dX9_store_48 : decode cX9_store 48 = .ok (.imul, 1) := by decide +kernel
theorem dX9_store_49 : decode cX9_store 49 = .ok (.iadd, 1) := by decide +kernel
theorem dX9_store_50 : decode cX9_store 50 = .ok (.iload_n 3, 1) := by decide +kernel
theorem dX9_store_51 : decode cX9_store 51 = .ok (.iadd, 1) := by decide +kernel
theorem dX9_store_52 : decode cX9_store 52 = .ok (.iaload, 1) := by decide +kernel
theorem dX9_store_53 : decode cX9_store 53 = .ok (.ireturn, 1) := by decide +kernel
theorem dX9_outcomes_0 : decode cX9_outcomes 0 = .ok (.aload_n 0, 1) := by decide +kernel
theorem dX9_outcomes_1 : decode cX9_outcomes 1 = .ok (.getfield 224, 3) := by decide +kernel
theorem dX9_outcomes_4 : decode cX9_outcomes 4 = .ok (.ifCond .eq 12, 3) := by decide +kernel
theorem dX9_outcomes_7 : decode cX9_outcomes 7 = .ok (.iload_n 1, 1) := by decide +kernel
theorem dX9_outcomes_8 : decode cX9_outcomes 8 = .ok (.ifCond .lt 8, 3) := by decide +kernel
theorem dX9_outcomes_11 : decode cX9_outcomes 11 = .ok (.iload_n 1, 1) := by decide +kernel
theorem dX9_outcomes_12 : decode cX9_outcomes 12 = .ok (.iconst 1, 1) := by decide +kernel
theorem dX9_outcomes_13 : decode cX9_outcomes 13 = .ok (.if_icmp .le 5, 3) := by decide +kernel
theorem dX9_outcomes_16 : decode cX9_outcomes 16 = .ok (.iconst (-1), 1) := by decide +kernel
theorem dX9_outcomes_17 : decode cX9_outcomes 17 = .ok (.ireturn, 1) := by decide +kernel
theorem dX9_outcomes_18 : decode cX9_outcomes 18 = .ok (.aload_n 0, 1) := by decide +kernel
theorem dX9_outcomes_19 : decode cX9_outcomes 19 = .ok (.iload_n 1, 1) := by decide +kernel
theorem dX9_outcomes_20 : decode cX9_outcomes 20 = .ok (.invokevirtual 347, 3) := by decide +kernel
theorem dX9_outcomes_23 : decode cX9_outcomes 23 = .ok (.ifCond .eq 12, 3) := by decide +kernel
theorem dX9_outcomes_26 : decode cX9_outcomes 26 = .ok (.aload_n 0, 1) := by decide +kernel
theorem dX9_outcomes_27 : decode cX9_outcomes 27 = .ok (.getfield 72, 3) := by decide +kernel
theorem dX9_outcomes_30 : decode cX9_outcomes 30 = .ok (.iload_n 1, 1) := by decide +kernel
theorem dX9_outcomes_31 : decode cX9_outcomes 31 = .ok (.iaload, 1) := by decide +kernel
theorem dX9_outcomes_32 : decode cX9_outcomes 32 = .ok (.goto 5, 3) := by decide +kernel
theorem dX9_outcomes_35 : decode cX9_outcomes 35 = .ok (.bipush (-2), 2) := by decide +kernel
theorem dX9_outcomes_37 : decode cX9_outcomes 37 = .ok (.ireturn, 1) := by decide +kernel
theorem dX9_isOutcome_0 : decode cX9_isOutcome 0 = .ok (.aload_n 0, 1) := by decide +kernel
theorem dX9_isOutcome_1 : decode cX9_isOutcome 1 = .ok (.getfield 224, 3) := by decide +kernel
theorem dX9_isOutcome_4 : decode cX9_isOutcome 4 = .ok (.ifCond .eq 38, 3) := by decide +kernel
theorem dX9_isOutcome_7 : decode cX9_isOutcome 7 = .ok (.iload_n 1, 1) := by decide +kernel
theorem dX9_isOutcome_8 : decode cX9_isOutcome 8 = .ok (.ifCond .lt 34, 3) := by decide +kernel
theorem dX9_isOutcome_11 : decode cX9_isOutcome 11 = .ok (.iload_n 1, 1) := by decide +kernel
theorem dX9_isOutcome_12 : decode cX9_isOutcome 12 = .ok (.iconst 1, 1) := by decide +kernel
theorem dX9_isOutcome_13 : decode cX9_isOutcome 13 = .ok (.if_icmp .gt 29, 3) := by decide +kernel
theorem dX9_isOutcome_16 : decode cX9_isOutcome 16 = .ok (.iload_n 2, 1) := by decide +kernel
theorem dX9_isOutcome_17 : decode cX9_isOutcome 17 = .ok (.ifCond .lt 25, 3) := by decide +kernel
theorem dX9_isOutcome_20 : decode cX9_isOutcome 20 = .ok (.aload_n 0, 1) := by decide +kernel
theorem dX9_isOutcome_21 : decode cX9_isOutcome 21 = .ok (.iload_n 1, 1) := by decide +kernel
theorem dX9_isOutcome_22 : decode cX9_isOutcome 22 = .ok (.invokevirtual 347, 3) := by decide +kernel
theorem dX9_isOutcome_25 : decode cX9_isOutcome 25 = .ok (.ifCond .eq 17, 3) := by decide +kernel
theorem dX9_isOutcome_28 : decode cX9_isOutcome 28 = .ok (.iload_n 2, 1) := by decide +kernel
theorem dX9_isOutcome_29 : decode cX9_isOutcome 29 = .ok (.aload_n 0, 1) := by decide +kernel
theorem dX9_isOutcome_30 : decode cX9_isOutcome 30 = .ok (.getfield 72, 3) := by decide +kernel
theorem dX9_isOutcome_33 : decode cX9_isOutcome 33 = .ok (.iload_n 1, 1) := by decide +kernel
theorem dX9_isOutcome_34 : decode cX9_isOutcome 34 = .ok (.iaload, 1) := by decide +kernel
theorem dX9_isOutcome_35 : decode cX9_isOutcome 35 = .ok (.if_icmp .ge 7, 3) := by decide +kernel
theorem dX9_isOutcome_38 : decode cX9_isOutcome 38 = .ok (.iconst 1, 1) := by decide +kernel
theorem dX9_isOutcome_39 : decode cX9_isOutcome 39 = .ok (.goto 4, 3) := by decide +kernel
theorem dX9_isOutcome_42 : decode cX9_isOutcome 42 = .ok (.iconst 0, 1) := by decide +kernel
theorem dX9_isOutcome_43 : decode cX9_isOutcome 43 = .ok (.ireturn, 1) := by decide +kernel
set_option maxRecDepth 20000 in
theorem ggX9_outcome_X9_isOutcome : GoodIn wsX9_outcome wsX9_isOutcome := goodIn_r _ [6, 7, 8, 9, 10, 11, 5, 12, 13, 14, 15, 16, 17, 18, 19, 20, 21, 1, 22, 23, 24, 25, 26, 27, 28, 29, 30, 31, 32, 33, 34, 35, 36, 37, 38, 39, 40, 41, 42, 43, 44, 45, 46, 47, 48, 49, 50, 51, 52, 53, 54, 55, 56, 57, 58, 59, 60, 61, 62, 63, 64, 65, 66, 67, 68, 69, 70, 71, 72, 73, 74, 75, 76, 77, 78, 79, 80, 81, 82, 83, 84, 85, 86, 87, 88, 89, 90, 91, 92, 93, 94, 95, 96, 97, 98, 99, 100, 101, 102, 103, 104, 105, 106, 107, 108, 109, 110, 111, 112, 113, 114, 115, 116, 117, 118, 119, 120, 121, 122, 123, 124, 125, 126, 127, 128, 129, 130, 131, 132, 133, 134, 135, 136, 137, 138, 139, 140, 141, 142, 143, 144, 145, 146, 147, 148, 149, 150, 151, 152, 153, 154, 155, 156, 157, 158, 159, 160] (by decide +kernel) (by decide +kernel)
set_option maxRecDepth 20000 in
theorem gX9_outcome_X9_isOutcome : GoodIn wsX9_outcome (wsV RX9 350 RX9 yX9_isOutcome wsX9_isOutcome) := goodIn_app (goodIn_of _ (by decide +kernel)) ggX9_outcome_X9_isOutcome
theorem dX9_outcome_0 : decode cX9_outcome 0 = .ok (.aload_n 0, 1) := by decide +kernel
theorem dX9_outcome_1 : decode cX9_outcome 1 = .ok (.iload_n 1, 1) := by decide +kernel
theorem dX9_outcome_2 : decode cX9_outcome 2 = .ok (.iload_n 2, 1) := by decide +kernel
theorem dX9_outcome_3 : decode cX9_outcome 3 = .ok (.invokevirtual 350, 3) := by decide +kernel
theorem dX9_outcome_6 : decode cX9_outcome 6 = .ok (.ifCond .eq 34, 3) := by decide +kernel
theorem dX9_outcome_9 : decode cX9_outcome 9 = .ok (.iload_n 3, 1) := by decide +kernel
theorem dX9_outcome_10 : decode cX9_outcome 10 = .ok (.ifCond .lt 30, 3) := by decide +kernel
theorem dX9_outcome_13 : decode cX9_outcome 13 = .ok (.iload_n 3, 1) := by decide +kernel
theorem dX9_outcome_14 : decode cX9_outcome 14 = .ok (.bipush 13, 2) := by decide +kernel
theorem dX9_outcome_16 : decode cX9_outcome 16 = .ok (.if_icmp .ge 24, 3) := by decide +kernel
theorem dX9_outcome_19 : decode cX9_outcome 19 = .ok (.aload_n 0, 1) := by decide +kernel
theorem dX9_outcome_20 : decode cX9_outcome 20 = .ok (.iload_n 1, 1) := by decide +kernel
theorem dX9_outcome_21 : decode cX9_outcome 21 = .ok (.aload_n 0, 1) := by decide +kernel
theorem dX9_outcome_22 : decode cX9_outcome 22 = .ok (.getfield 69, 3) := by decide +kernel
theorem dX9_outcome_25 : decode cX9_outcome 25 = .ok (.sipush 3000, 3) := by decide +kernel
theorem dX9_outcome_28 : decode cX9_outcome 28 = .ok (.iload_n 1, 1) := by decide +kernel
theorem dX9_outcome_29 : decode cX9_outcome 29 = .ok (.imul, 1) := by decide +kernel
theorem dX9_outcome_30 : decode cX9_outcome 30 = .ok (.iload_n 2, 1) := by decide +kernel
theorem dX9_outcome_31 : decode cX9_outcome 31 = .ok (.iadd, 1) := by decide +kernel
theorem dX9_outcome_32 : decode cX9_outcome 32 = .ok (.iaload, 1) := by decide +kernel
theorem dX9_outcome_33 : decode cX9_outcome 33 = .ok (.iload_n 3, 1) := by decide +kernel
theorem dX9_outcome_34 : decode cX9_outcome 34 = .ok (.invokevirtual 324, 3) := by decide +kernel
theorem dX9_outcome_37 : decode cX9_outcome 37 = .ok (.goto 4, 3) := by decide +kernel
theorem dX9_outcome_40 : decode cX9_outcome 40 = .ok (.iconst 0, 1) := by decide +kernel
theorem dX9_outcome_41 : decode cX9_outcome 41 = .ok (.ireturn, 1) := by decide +kernel
set_option maxRecDepth 20000 in
theorem ggX9_schedule_X9_isOutcome : GoodIn wsX9_schedule wsX9_isOutcome := goodIn_r _ [6, 7, 8, 9, 10, 11, 5, 12, 13, 14, 15, 16, 17, 18, 19, 20, 21, 1, 22, 23, 24, 25, 26, 27, 28, 29, 30, 31, 32, 33, 34, 35, 36, 37, 38, 39, 40, 41, 42, 43, 44, 45, 46, 47, 48, 49, 50, 51, 52, 53, 54, 55, 56, 57, 58, 59, 60, 61, 62, 63, 64, 65, 66, 67, 68, 69, 70, 71, 72, 73, 74, 75, 76, 77, 78, 79, 80, 81, 82, 83, 84, 85, 86, 87, 88, 89, 90, 91, 92, 93, 94, 95, 96, 97, 98, 99, 100, 101, 102, 103, 104, 105, 106, 107, 108, 113, 114, 115, 116, 117, 118, 119, 120, 121, 122, 123, 124, 125, 126, 127, 128, 129, 130, 131, 132, 133, 134, 135, 136, 137, 138, 139, 140, 141, 142, 143, 144, 145, 146, 147, 148, 149, 150, 151, 152, 153, 154, 155, 156, 157, 158, 159, 160, 161, 162, 163, 164] (by decide +kernel) (by decide +kernel)
set_option maxRecDepth 20000 in
theorem gX9_schedule_X9_isOutcome : GoodIn wsX9_schedule (wsV RX9 350 RX9 yX9_isOutcome wsX9_isOutcome) := goodIn_app (goodIn_of _ (by decide +kernel)) ggX9_schedule_X9_isOutcome
theorem dX9_schedule_0 : decode cX9_schedule 0 = .ok (.aload_n 0, 1) := by decide +kernel
theorem dX9_schedule_1 : decode cX9_schedule 1 = .ok (.iload_n 1, 1) := by decide +kernel
theorem dX9_schedule_2 : decode cX9_schedule 2 = .ok (.iload_n 2, 1) := by decide +kernel
theorem dX9_schedule_3 : decode cX9_schedule 3 = .ok (.invokevirtual 350, 3) := by decide +kernel
theorem dX9_schedule_6 : decode cX9_schedule 6 = .ok (.ifCond .eq 24, 3) := by decide +kernel
theorem dX9_schedule_9 : decode cX9_schedule 9 = .ok (.aload_n 0, 1) := by decide +kernel
theorem dX9_schedule_10 : decode cX9_schedule 10 = .ok (.iload_n 1, 1) := by decide +kernel
theorem dX9_schedule_11 : decode cX9_schedule 11 = .ok (.aload_n 0, 1) := by decide +kernel
theorem dX9_schedule_12 : decode cX9_schedule 12 = .ok (.getfield 69, 3) := by decide +kernel
theorem dX9_schedule_15 : decode cX9_schedule 15 = .ok (.sipush 3000, 3) := by decide +kernel
theorem dX9_schedule_18 : decode cX9_schedule 18 = .ok (.iload_n 1, 1) := by decide +kernel
theorem dX9_schedule_19 : decode cX9_schedule 19 = .ok (.imul, 1) := by decide +kernel
theorem dX9_schedule_20 : decode cX9_schedule 20 = .ok (.iload_n 2, 1) := by decide +kernel
theorem dX9_schedule_21 : decode cX9_schedule 21 = .ok (.iadd, 1) := by decide +kernel
theorem dX9_schedule_22 : decode cX9_schedule 22 = .ok (.iaload, 1) := by decide +kernel
theorem dX9_schedule_23 : decode cX9_schedule 23 = .ok (.iload_n 3, 1) := by decide +kernel
theorem dX9_schedule_24 : decode cX9_schedule 24 = .ok (.invokevirtual 353, 3) := by decide +kernel
theorem dX9_schedule_27 : decode cX9_schedule 27 = .ok (.goto 4, 3) := by decide +kernel
theorem dX9_schedule_30 : decode cX9_schedule 30 = .ok (.iconst (-1), 1) := by decide +kernel
theorem dX9_schedule_31 : decode cX9_schedule 31 = .ok (.ireturn, 1) := by decide +kernel
theorem dX9_more_0 : decode cX9_more 0 = .ok (.aload_n 0, 1) := by decide +kernel
theorem dX9_more_1 : decode cX9_more 1 = .ok (.getfield 224, 3) := by decide +kernel
theorem dX9_more_4 : decode cX9_more 4 = .ok (.ifCond .ne 5, 3) := by decide +kernel
theorem dX9_more_7 : decode cX9_more 7 = .ok (.iconst (-1), 1) := by decide +kernel
theorem dX9_more_8 : decode cX9_more 8 = .ok (.ireturn, 1) := by decide +kernel
theorem dX9_more_9 : decode cX9_more 9 = .ok (.aload_n 0, 1) := by decide +kernel
theorem dX9_more_10 : decode cX9_more 10 = .ok (.iconst 0, 1) := by decide +kernel
theorem dX9_more_11 : decode cX9_more 11 = .ok (.invokevirtual 347, 3) := by decide +kernel
theorem dX9_more_14 : decode cX9_more 14 = .ok (.istore_n 2, 1) := by decide +kernel
theorem dX9_more_15 : decode cX9_more 15 = .ok (.aload_n 0, 1) := by decide +kernel
theorem dX9_more_16 : decode cX9_more 16 = .ok (.iconst 1, 1) := by decide +kernel
theorem dX9_more_17 : decode cX9_more 17 = .ok (.invokevirtual 347, 3) := by decide +kernel
theorem dX9_more_20 : decode cX9_more 20 = .ok (.ifCond .eq 11, 3) := by decide +kernel
theorem dX9_more_23 : decode cX9_more 23 = .ok (.iload_n 2, 1) := by decide +kernel
theorem dX9_more_24 : decode cX9_more 24 = .ok (.ifCond .eq 7, 3) := by decide +kernel
theorem dX9_more_27 : decode cX9_more 27 = .ok (.iconst 1, 1) := by decide +kernel
theorem dX9_more_28 : decode cX9_more 28 = .ok (.goto 4, 3) := by decide +kernel
theorem dX9_more_31 : decode cX9_more 31 = .ok (.iconst 0, 1) := by decide +kernel
theorem dX9_more_32 : decode cX9_more 32 = .ok (.istore_n 2, 1) := by decide +kernel
theorem dX9_more_33 : decode cX9_more 33 = .ok (.iload_n 2, 1) := by decide +kernel
theorem dX9_more_34 : decode cX9_more 34 = .ok (.ifCond .ne 6, 3) := by decide +kernel
theorem dX9_more_37 : decode cX9_more 37 = .ok (.bipush (-2), 2) := by decide +kernel
theorem dX9_more_39 : decode cX9_more 39 = .ok (.ireturn, 1) := by decide +kernel
theorem dX9_more_40 : decode cX9_more 40 = .ok (.iconst 0, 1) := by decide +kernel
theorem dX9_more_41 : decode cX9_more 41 = .ok (.istore_n 3, 1) := by decide +kernel
theorem dX9_more_42 : decode cX9_more 42 = .ok (.iconst 0, 1) := by decide +kernel
theorem dX9_more_43 : decode cX9_more 43 = .ok (.istore 4, 2) := by decide +kernel
theorem dX9_more_45 : decode cX9_more 45 = .ok (.iload 4, 2) := by decide +kernel
theorem dX9_more_47 : decode cX9_more 47 = .ok (.aload_n 0, 1) := by decide +kernel
theorem dX9_more_48 : decode cX9_more 48 = .ok (.getfield 72, 3) := by decide +kernel
theorem dX9_more_51 : decode cX9_more 51 = .ok (.iconst 1, 1) := by decide +kernel
theorem dX9_more_52 : decode cX9_more 52 = .ok (.iaload, 1) := by decide +kernel
theorem dX9_more_53 : decode cX9_more 53 = .ok (.if_icmp .ge 29, 3) := by decide +kernel
theorem dX9_more_56 : decode cX9_more 56 = .ok (.aload_n 0, 1) := by decide +kernel
theorem dX9_more_57 : decode cX9_more 57 = .ok (.iload 4, 2) := by decide +kernel
theorem dX9_more_59 : decode cX9_more 59 = .ok (.invokevirtual 356, 3) := by decide +kernel
theorem dX9_more_62 : decode cX9_more 62 = .ok (.ifCond .ne 14, 3) := by decide +kernel
theorem dX9_more_65 : decode cX9_more 65 = .ok (.iload_n 3, 1) := by decide +kernel
theorem dX9_more_66 : decode cX9_more 66 = .ok (.iload_n 1, 1) := by decide +kernel
theorem dX9_more_67 : decode cX9_more 67 = .ok (.if_icmp .ne 6, 3) := by decide +kernel
theorem dX9_more_70 : decode cX9_more 70 = .ok (.iload 4, 2) := by decide +kernel
theorem dX9_more_72 : decode cX9_more 72 = .ok (.ireturn, 1) := by decide +kernel
theorem dX9_more_73 : decode cX9_more 73 = .ok (.iinc 3 1, 3) := by decide +kernel
theorem dX9_more_76 : decode cX9_more 76 = .ok (.iinc 4 1, 3) := by decide +kernel
theorem dX9_more_79 : decode cX9_more 79 = .ok (.goto (-34), 3) := by decide +kernel
theorem dX9_more_82 : decode cX9_more 82 = .ok (.iconst (-1), 1) := by decide +kernel
theorem dX9_more_83 : decode cX9_more 83 = .ok (.ireturn, 1) := by decide +kernel
theorem dX9_race_0 : decode cX9_race 0 = .ok (.aload_n 0, 1) := by decide +kernel
theorem dX9_race_1 : decode cX9_race 1 = .ok (.getfield 224, 3) := by decide +kernel
theorem dX9_race_4 : decode cX9_race 4 = .ok (.ifCond .ne 5, 3) := by decide +kernel
theorem dX9_race_7 : decode cX9_race 7 = .ok (.iconst (-1), 1) := by decide +kernel
theorem dX9_race_8 : decode cX9_race 8 = .ok (.ireturn, 1) := by decide +kernel
theorem dX9_race_9 : decode cX9_race 9 = .ok (.aload_n 0, 1) := by decide +kernel
theorem dX9_race_10 : decode cX9_race 10 = .ok (.getfield 98, 3) := by decide +kernel
theorem dX9_race_13 : decode cX9_race 13 = .ok (.iconst (-1), 1) := by decide +kernel
theorem dX9_race_14 : decode cX9_race 14 = .ok (.if_icmp .eq 8, 3) := by decide +kernel
theorem dX9_race_17 : decode cX9_race 17 = .ok (.aload_n 0, 1) := by decide +kernel
theorem dX9_race_18 : decode cX9_race 18 = .ok (.getfield 98, 3) := by decide +kernel
theorem dX9_race_21 : decode cX9_race 21 = .ok (.ireturn, 1) := by decide +kernel
theorem dX9_race_22 : decode cX9_race 22 = .ok (.aload_n 0, 1) := by decide +kernel
theorem dX9_race_23 : decode cX9_race 23 = .ok (.iconst 2, 1) := by decide +kernel
theorem dX9_race_24 : decode cX9_race 24 = .ok (.iconst 0, 1) := by decide +kernel
theorem dX9_race_25 : decode cX9_race 25 = .ok (.iconst 0, 1) := by decide +kernel
theorem dX9_race_26 : decode cX9_race 26 = .ok (.iconst 1, 1) := by decide +kernel
theorem dX9_race_27 : decode cX9_race 27 = .ok (.invokevirtual 335, 3) := by decide +kernel
theorem dX9_race_30 : decode cX9_race 30 = .ok (.aload_n 0, 1) := by decide +kernel
theorem dX9_race_31 : decode cX9_race 31 = .ok (.aload_n 0, 1) := by decide +kernel
theorem dX9_race_32 : decode cX9_race 32 = .ok (.getfield 62, 3) := by decide +kernel
theorem dX9_race_35 : decode cX9_race 35 = .ok (.iconst 2, 1) := by decide +kernel
theorem dX9_race_36 : decode cX9_race 36 = .ok (.baload, 1) := by decide +kernel
theorem dX9_race_37 : decode cX9_race 37 = .ok (.ifCond .eq 8, 3) := by decide +kernel
theorem dX9_race_40 : decode cX9_race 40 = .ok (.bipush (-2), 2) := by decide +kernel
theorem dX9_race_42 : decode cX9_race 42 = .ok (.goto 4, 3) := by decide +kernel
theorem dX9_race_45 : decode cX9_race 45 = .ok (.iconst 0, 1) := by decide +kernel
theorem dX9_race_46 : decode cX9_race 46 = .ok (.putfield 98, 3) := by decide +kernel
theorem dX9_race_49 : decode cX9_race 49 = .ok (.iconst 0, 1) := by decide +kernel
theorem dX9_race_50 : decode cX9_race 50 = .ok (.istore_n 1, 1) := by decide +kernel
theorem dX9_race_51 : decode cX9_race 51 = .ok (.iload_n 1, 1) := by decide +kernel
theorem dX9_race_52 : decode cX9_race 52 = .ok (.aload_n 0, 1) := by decide +kernel
theorem dX9_race_53 : decode cX9_race 53 = .ok (.getfield 59, 3) := by decide +kernel
theorem dX9_race_56 : decode cX9_race 56 = .ok (.iconst 2, 1) := by decide +kernel
theorem dX9_race_57 : decode cX9_race 57 = .ok (.iaload, 1) := by decide +kernel
theorem dX9_race_58 : decode cX9_race 58 = .ok (.if_icmp .ge 79, 3) := by decide +kernel
theorem dX9_race_61 : decode cX9_race 61 = .ok (.aload_n 0, 1) := by decide +kernel
theorem dX9_race_62 : decode cX9_race 62 = .ok (.getfield 98, 3) := by decide +kernel
theorem dX9_race_65 : decode cX9_race 65 = .ok (.ifCond .ne 72, 3) := by decide +kernel
theorem dX9_race_68 : decode cX9_race 68 = .ok (.aload_n 0, 1) := by decide +kernel
theorem dX9_race_69 : decode cX9_race 69 = .ok (.iload_n 1, 1) := by decide +kernel
theorem dX9_race_70 : decode cX9_race 70 = .ok (.invokevirtual 371, 3) := by decide +kernel
theorem dX9_race_73 : decode cX9_race 73 = .ok (.ifCond .eq 58, 3) := by decide +kernel
theorem dX9_race_76 : decode cX9_race 76 = .ok (.aload_n 0, 1) := by decide +kernel
theorem dX9_race_77 : decode cX9_race 77 = .ok (.iconst 1, 1) := by decide +kernel
theorem dX9_race_78 : decode cX9_race 78 = .ok (.putfield 98, 3) := by decide +kernel
theorem dX9_race_81 : decode cX9_race 81 = .ok (.aload_n 0, 1) := by decide +kernel
theorem dX9_race_82 : decode cX9_race 82 = .ok (.iconst 0, 1) := by decide +kernel
theorem dX9_race_83 : decode cX9_race 83 = .ok (.putfield 374, 3) := by decide +kernel
theorem dX9_race_86 : decode cX9_race 86 = .ok (.aload_n 0, 1) := by decide +kernel
theorem dX9_race_87 : decode cX9_race 87 = .ok (.iconst 2, 1) := by decide +kernel
theorem dX9_race_88 : decode cX9_race 88 = .ok (.iload_n 1, 1) := by decide +kernel
theorem dX9_race_89 : decode cX9_race 89 = .ok (.aload_n 0, 1) := by decide +kernel
theorem dX9_race_90 : decode cX9_race 90 = .ok (.getfield 374, 3) := by decide +kernel
theorem dX9_race_93 : decode cX9_race 93 = .ok (.invokevirtual 353, 3) := by decide +kernel
theorem dX9_race_96 : decode cX9_race 96 = .ok (.ifCond .lt 35, 3) := by decide +kernel
theorem dX9_race_99 : decode cX9_race 99 = .ok (.aload_n 0, 1) := by decide +kernel
theorem dX9_race_100 : decode cX9_race 100 = .ok (.getfield 101, 3) := by decide +kernel
theorem dX9_race_103 : decode cX9_race 103 = .ok (.aload_n 0, 1) := by decide +kernel
theorem dX9_race_104 : decode cX9_race 104 = .ok (.getfield 374, 3) := by decide +kernel
theorem dX9_race_107 : decode cX9_race 107 = .ok (.aload_n 0, 1) := by decide +kernel
theorem dX9_race_108 : decode cX9_race 108 = .ok (.iconst 2, 1) := by decide +kernel
theorem dX9_race_109 : decode cX9_race 109 = .ok (.iload_n 1, 1) := by decide +kernel
theorem dX9_race_110 : decode cX9_race 110 = .ok (.aload_n 0, 1) := by decide +kernel
theorem dX9_race_111 : decode cX9_race 111 = .ok (.getfield 374, 3) := by decide +kernel
theorem dX9_race_114 : decode cX9_race 114 = .ok (.invokevirtual 353, 3) := by decide +kernel
theorem dX9_race_117 : decode cX9_race 117 = .ok (.iastore, 1) := by decide +kernel
theorem dX9_race_118 : decode cX9_race 118 = .ok (.aload_n 0, 1) := by decide +kernel
theorem dX9_race_119 : decode cX9_race 119 = .ok (.dup, 1) := by decide +kernel
theorem dX9_race_120 : decode cX9_race 120 = .ok (.getfield 374, 3) := by decide +kernel
theorem dX9_race_123 : decode cX9_race 123 = .ok (.iconst 1, 1) := by decide +kernel
theorem dX9_race_124 : decode cX9_race 124 = .ok (.iadd, 1) := by decide +kernel
theorem dX9_race_125 : decode cX9_race 125 = .ok (.putfield 374, 3) := by decide +kernel
theorem dX9_race_128 : decode cX9_race 128 = .ok (.goto (-42), 3) := by decide +kernel
theorem dX9_race_131 : decode cX9_race 131 = .ok (.iinc 1 1, 3) := by decide +kernel
theorem dX9_race_134 : decode cX9_race 134 = .ok (.goto (-83), 3) := by decide +kernel
theorem dX9_race_137 : decode cX9_race 137 = .ok (.aload_n 0, 1) := by decide +kernel
theorem dX9_race_138 : decode cX9_race 138 = .ok (.getfield 98, 3) := by decide +kernel
theorem dX9_race_141 : decode cX9_race 141 = .ok (.ireturn, 1) := by decide +kernel
set_option maxRecDepth 20000 in
theorem ggX9_racer_X9_race : GoodIn wsX9_racer wsX9_race := goodIn_r _ [11, 1, 12, 13, 14, 5, 6, 15, 16, 17, 10, 18, 19, 20, 21, 22, 23, 24, 25, 26, 27, 28, 29, 30, 31, 32, 33, 34, 35, 36, 37, 38, 39, 40, 41, 42, 43, 44, 45, 46, 47, 48, 49, 50, 51, 52, 53, 54, 55, 56, 57, 58, 59, 60, 61, 62, 63, 64, 65, 66, 67, 68, 69, 70, 71, 72, 73, 74, 75, 76, 77, 78, 79, 80, 81, 82, 83, 84, 85, 86, 87, 88, 89, 90, 91, 92, 93, 94, 95, 96, 97, 98, 99, 100, 101, 102, 103, 104, 105, 106, 107, 108, 109, 110, 111, 112, 113, 114, 2, 3, 4, 115, 116, 117, 118, 119, 120, 121, 122, 123, 124, 125, 126, 127, 128, 129, 130, 131, 132, 133, 134, 135, 136, 137, 138, 139, 140, 141, 142, 143, 144, 145, 146, 147, 148, 149, 150, 151, 152, 153, 154, 155, 156, 157, 158, 159, 160, 161, 162, 163, 164, 165, 166, 167, 168, 169, 170, 171, 172, 173, 174] (by decide +kernel) (by decide +kernel)
set_option maxRecDepth 20000 in
theorem gX9_racer_X9_race : GoodIn wsX9_racer (wsV RX9 377 RX9 yX9_race wsX9_race) := goodIn_app (goodIn_of _ (by decide +kernel)) ggX9_racer_X9_race
theorem dX9_racer_0 : decode cX9_racer 0 = .ok (.aload_n 0, 1) := by decide +kernel
theorem dX9_racer_1 : decode cX9_racer 1 = .ok (.getfield 224, 3) := by decide +kernel
theorem dX9_racer_4 : decode cX9_racer 4 = .ok (.ifCond .eq 15, 3) := by decide +kernel
theorem dX9_racer_7 : decode cX9_racer 7 = .ok (.iload_n 1, 1) := by decide +kernel
theorem dX9_racer_8 : decode cX9_racer 8 = .ok (.ifCond .lt 11, 3) := by decide +kernel
theorem dX9_racer_11 : decode cX9_racer 11 = .ok (.aload_n 0, 1) := by decide +kernel
theorem dX9_racer_12 : decode cX9_racer 12 = .ok (.invokevirtual 377, 3) := by decide +kernel
theorem dX9_racer_15 : decode cX9_racer 15 = .ok (.iconst 1, 1) := by decide +kernel
theorem dX9_racer_16 : decode cX9_racer 16 = .ok (.if_icmp .eq 5, 3) := by decide +kernel
theorem dX9_racer_19 : decode cX9_racer 19 = .ok (.iconst (-1), 1) := by decide +kernel
theorem dX9_racer_20 : decode cX9_racer 20 = .ok (.ireturn, 1) := by decide +kernel
theorem dX9_racer_21 : decode cX9_racer 21 = .ok (.iload_n 1, 1) := by decide +kernel
theorem dX9_racer_22 : decode cX9_racer 22 = .ok (.iconst 3, 1) := by decide +kernel
theorem dX9_racer_23 : decode cX9_racer 23 = .ok (.if_icmp .ge 31, 3) := by decide +kernel
theorem dX9_racer_26 : decode cX9_racer 26 = .ok (.iload_n 1, 1) := by decide +kernel
theorem dX9_racer_27 : decode cX9_racer 27 = .ok (.ifCond .ne 10, 3) := by decide +kernel
theorem dX9_racer_30 : decode cX9_racer 30 = .ok (.aload_n 0, 1) := by decide +kernel
theorem dX9_racer_31 : decode cX9_racer 31 = .ok (.getfield 362, 3) := by decide +kernel
theorem dX9_racer_34 : decode cX9_racer 34 = .ok (.goto 19, 3) := by decide +kernel
theorem dX9_racer_37 : decode cX9_racer 37 = .ok (.iload_n 1, 1) := by decide +kernel
theorem dX9_racer_38 : decode cX9_racer 38 = .ok (.iconst 1, 1) := by decide +kernel
theorem dX9_racer_39 : decode cX9_racer 39 = .ok (.if_icmp .ne 10, 3) := by decide +kernel
theorem dX9_racer_42 : decode cX9_racer 42 = .ok (.aload_n 0, 1) := by decide +kernel
theorem dX9_racer_43 : decode cX9_racer 43 = .ok (.getfield 365, 3) := by decide +kernel
theorem dX9_racer_46 : decode cX9_racer 46 = .ok (.goto 7, 3) := by decide +kernel
theorem dX9_racer_49 : decode cX9_racer 49 = .ok (.aload_n 0, 1) := by decide +kernel
theorem dX9_racer_50 : decode cX9_racer 50 = .ok (.getfield 368, 3) := by decide +kernel
theorem dX9_racer_53 : decode cX9_racer 53 = .ok (.ireturn, 1) := by decide +kernel
theorem dX9_racer_54 : decode cX9_racer 54 = .ok (.iload_n 1, 1) := by decide +kernel
theorem dX9_racer_55 : decode cX9_racer 55 = .ok (.iconst 3, 1) := by decide +kernel
theorem dX9_racer_56 : decode cX9_racer 56 = .ok (.isub, 1) := by decide +kernel
theorem dX9_racer_57 : decode cX9_racer 57 = .ok (.aload_n 0, 1) := by decide +kernel
theorem dX9_racer_58 : decode cX9_racer 58 = .ok (.getfield 374, 3) := by decide +kernel
theorem dX9_racer_61 : decode cX9_racer 61 = .ok (.if_icmp .ge 14, 3) := by decide +kernel
theorem dX9_racer_64 : decode cX9_racer 64 = .ok (.aload_n 0, 1) := by decide +kernel
theorem dX9_racer_65 : decode cX9_racer 65 = .ok (.getfield 101, 3) := by decide +kernel
theorem dX9_racer_68 : decode cX9_racer 68 = .ok (.iload_n 1, 1) := by decide +kernel
theorem dX9_racer_69 : decode cX9_racer 69 = .ok (.iconst 3, 1) := by decide +kernel
theorem dX9_racer_70 : decode cX9_racer 70 = .ok (.isub, 1) := by decide +kernel
theorem dX9_racer_71 : decode cX9_racer 71 = .ok (.iaload, 1) := by decide +kernel
theorem dX9_racer_72 : decode cX9_racer 72 = .ok (.goto 4, 3) := by decide +kernel
theorem dX9_racer_75 : decode cX9_racer 75 = .ok (.iconst (-1), 1) := by decide +kernel
theorem dX9_racer_76 : decode cX9_racer 76 = .ok (.ireturn, 1) := by decide +kernel
theorem dX9_cure_0 : decode cX9_cure 0 = .ok (.aload_n 0, 1) := by decide +kernel
theorem dX9_cure_1 : decode cX9_cure 1 = .ok (.getfield 224, 3) := by decide +kernel
theorem dX9_cure_4 : decode cX9_cure 4 = .ok (.ifCond .eq 12, 3) := by decide +kernel
theorem dX9_cure_7 : decode cX9_cure 7 = .ok (.iload_n 1, 1) := by decide +kernel
theorem dX9_cure_8 : decode cX9_cure 8 = .ok (.ifCond .lt 8, 3) := by decide +kernel
theorem dX9_cure_11 : decode cX9_cure 11 = .ok (.iload_n 1, 1) := by decide +kernel
theorem dX9_cure_12 : decode cX9_cure 12 = .ok (.iconst 2, 1) := by decide +kernel
theorem dX9_cure_13 : decode cX9_cure 13 = .ok (.if_icmp .le 5, 3) := by decide +kernel
theorem dX9_cure_16 : decode cX9_cure 16 = .ok (.iconst (-1), 1) := by decide +kernel
theorem dX9_cure_17 : decode cX9_cure 17 = .ok (.ireturn, 1) := by decide +kernel
theorem dX9_cure_18 : decode cX9_cure 18 = .ok (.aload_n 0, 1) := by decide +kernel
theorem dX9_cure_19 : decode cX9_cure 19 = .ok (.iconst 0, 1) := by decide +kernel
theorem dX9_cure_20 : decode cX9_cure 20 = .ok (.invokevirtual 347, 3) := by decide +kernel
theorem dX9_cure_23 : decode cX9_cure 23 = .ok (.ifCond .ne 6, 3) := by decide +kernel
theorem dX9_cure_26 : decode cX9_cure 26 = .ok (.bipush (-2), 2) := by decide +kernel
theorem dX9_cure_28 : decode cX9_cure 28 = .ok (.ireturn, 1) := by decide +kernel
theorem dX9_cure_29 : decode cX9_cure 29 = .ok (.aload_n 0, 1) := by decide +kernel
theorem dX9_cure_30 : decode cX9_cure 30 = .ok (.invokevirtual 393, 3) := by decide +kernel
theorem dX9_cure_33 : decode cX9_cure 33 = .ok (.aload_n 0, 1) := by decide +kernel
theorem dX9_cure_34 : decode cX9_cure 34 = .ok (.iconst (-1), 1) := by decide +kernel
theorem dX9_cure_35 : decode cX9_cure 35 = .ok (.iconst (-1), 1) := by decide +kernel
theorem dX9_cure_36 : decode cX9_cure 36 = .ok (.invokevirtual 396, 3) := by decide +kernel
theorem dX9_cure_39 : decode cX9_cure 39 = .ok (.istore_n 2, 1) := by decide +kernel
theorem dX9_cure_40 : decode cX9_cure 40 = .ok (.iload_n 2, 1) := by decide +kernel
theorem dX9_cure_41 : decode cX9_cure 41 = .ok (.iconst 1, 1) := by decide +kernel
theorem dX9_cure_42 : decode cX9_cure 42 = .ok (.if_icmp .ne 7, 3) := by decide +kernel
theorem dX9_cure_45 : decode cX9_cure 45 = .ok (.iconst 0, 1) := by decide +kernel
theorem dX9_cure_46 : decode cX9_cure 46 = .ok (.goto 4, 3) := by decide +kernel
theorem dX9_cure_49 : decode cX9_cure 49 = .ok (.iconst (-1), 1) := by decide +kernel
theorem dX9_cure_50 : decode cX9_cure 50 = .ok (.istore_n 3, 1) := by decide +kernel
theorem dX9_cure_51 : decode cX9_cure 51 = .ok (.iconst (-1), 1) := by decide +kernel
theorem dX9_cure_52 : decode cX9_cure 52 = .ok (.istore 4, 2) := by decide +kernel
theorem dX9_cure_54 : decode cX9_cure 54 = .ok (.iconst (-1), 1) := by decide +kernel
theorem dX9_cure_55 : decode cX9_cure 55 = .ok (.istore 5, 2) := by decide +kernel
theorem dX9_cure_57 : decode cX9_cure 57 = .ok (.iconst 0, 1) := by decide +kernel
theorem dX9_cure_58 : decode cX9_cure 58 = .ok (.istore 6, 2) := by decide +kernel
theorem dX9_cure_60 : decode cX9_cure 60 = .ok (.iload 6, 2) := by decide +kernel
theorem dX9_cure_62 : decode cX9_cure 62 = .ok (.aload_n 0, 1) := by decide +kernel
theorem dX9_cure_63 : decode cX9_cure 63 = .ok (.getfield 381, 3) := by decide +kernel
theorem dX9_cure_66 : decode cX9_cure 66 = .ok (.if_icmp .ge 51, 3) := by decide +kernel
theorem dX9_cure_69 : decode cX9_cure 69 = .ok (.iload_n 1, 1) := by decide +kernel
theorem dX9_cure_70 : decode cX9_cure 70 = .ok (.iconst 1, 1) := by decide +kernel
theorem dX9_cure_71 : decode cX9_cure 71 = .ok (.if_icmp .lt 46, 3) := by decide +kernel
theorem dX9_cure_74 : decode cX9_cure 74 = .ok (.iload_n 2, 1) := by decide +kernel
theorem dX9_cure_75 : decode cX9_cure 75 = .ok (.ifCond .ne 42, 3) := by decide +kernel
theorem dX9_cure_78 : decode cX9_cure 78 = .ok (.aload_n 0, 1) := by decide +kernel
theorem dX9_cure_79 : decode cX9_cure 79 = .ok (.aload_n 0, 1) := by decide +kernel
theorem dX9_cure_80 : decode cX9_cure 80 = .ok (.getfield 110, 3) := by decide +kernel
theorem dX9_cure_83 : decode cX9_cure 83 = .ok (.iload 6, 2) := by decide +kernel
theorem dX9_cure_85 : decode cX9_cure 85 = .ok (.iaload, 1) := by decide +kernel
theorem dX9_cure_86 : decode cX9_cure 86 = .ok (.iconst (-1), 1) := by decide +kernel
theorem dX9_cure_87 : decode cX9_cure 87 = .ok (.invokevirtual 396, 3) := by decide +kernel
theorem dX9_cure_90 : decode cX9_cure 90 = .ok (.istore_n 2, 1) := by decide +kernel
theorem dX9_cure_91 : decode cX9_cure 91 = .ok (.iload_n 2, 1) := by decide +kernel
theorem dX9_cure_92 : decode cX9_cure 92 = .ok (.iconst 1, 1) := by decide +kernel
theorem dX9_cure_93 : decode cX9_cure 93 = .ok (.if_icmp .ne 7, 3) := by decide +kernel
theorem dX9_cure_96 : decode cX9_cure 96 = .ok (.iconst 1, 1) := by decide +kernel
theorem dX9_cure_97 : decode cX9_cure 97 = .ok (.goto 4, 3) := by decide +kernel
theorem dX9_cure_100 : decode cX9_cure 100 = .ok (.iconst (-1), 1) := by decide +kernel
theorem dX9_cure_101 : decode cX9_cure 101 = .ok (.istore_n 3, 1) := by decide +kernel
theorem dX9_cure_102 : decode cX9_cure 102 = .ok (.aload_n 0, 1) := by decide +kernel
theorem dX9_cure_103 : decode cX9_cure 103 = .ok (.getfield 110, 3) := by decide +kernel
theorem dX9_cure_106 : decode cX9_cure 106 = .ok (.iload 6, 2) := by decide +kernel
theorem dX9_cure_108 : decode cX9_cure 108 = .ok (.iaload, 1) := by decide +kernel
theorem dX9_cure_109 : decode cX9_cure 109 = .ok (.istore 4, 2) := by decide +kernel
theorem dX9_cure_111 : decode cX9_cure 111 = .ok (.iinc 6 1, 3) := by decide +kernel
theorem dX9_cure_114 : decode cX9_cure 114 = .ok (.goto (-54), 3) := by decide +kernel
theorem dX9_cure_117 : decode cX9_cure 117 = .ok (.iconst 0, 1) := by decide +kernel
theorem dX9_cure_118 : decode cX9_cure 118 = .ok (.istore 6, 2) := by decide +kernel
theorem dX9_cure_120 : decode cX9_cure 120 = .ok (.iload 6, 2) := by decide +kernel
theorem dX9_cure_122 : decode cX9_cure 122 = .ok (.aload_n 0, 1) := by decide +kernel
theorem dX9_cure_123 : decode cX9_cure 123 = .ok (.getfield 381, 3) := by decide +kernel
theorem dX9_cure_126 : decode cX9_cure 126 = .ok (.if_icmp .ge 91, 3) := by decide +kernel
theorem dX9_cure_129 : decode cX9_cure 129 = .ok (.iload_n 1, 1) := by decide +kernel
theorem dX9_cure_130 : decode cX9_cure 130 = .ok (.iconst 2, 1) := by decide +kernel
theorem dX9_cure_131 : decode cX9_cure 131 = .ok (.if_icmp .lt 86, 3) := by decide +kernel
theorem dX9_cure_134 : decode cX9_cure 134 = .ok (.iload_n 2, 1) := by decide +kernel
theorem dX9_cure_135 : decode cX9_cure 135 = .ok (.ifCond .ne 82, 3) := by decide +kernel
theorem dX9_cure_138 : decode cX9_cure 138 = .ok (.iload 6, 2) := by decide +kernel
theorem dX9_cure_140 : decode cX9_cure 140 = .ok (.iconst 1, 1) := by decide +kernel
theorem dX9_cure_141 : decode cX9_cure 141 = .ok (.iadd, 1) := by decide +kernel
theorem dX9_cure_142 : decode cX9_cure 142 = .ok (.istore 7, 2) := by decide +kernel
theorem dX9_cure_144 : decode cX9_cure 144 = .ok (.iload 7, 2) := by decide +kernel
theorem dX9_cure_146 : decode cX9_cure 146 = .ok (.aload_n 0, 1) := by decide +kernel
theorem dX9_cure_147 : decode cX9_cure 147 = .ok (.getfield 381, 3) := by decide +kernel
theorem dX9_cure_150 : decode cX9_cure 150 = .ok (.if_icmp .ge 61, 3) := by decide +kernel
theorem dX9_cure_153 : decode cX9_cure 153 = .ok (.iload_n 2, 1) := by decide +kernel
theorem dX9_cure_154 : decode cX9_cure 154 = .ok (.ifCond .ne 57, 3) := by decide +kernel
theorem dX9_cure_157 : decode cX9_cure 157 = .ok (.aload_n 0, 1) := by decide +kernel
theorem dX9_cure_158 : decode cX9_cure 158 = .ok (.aload_n 0, 1) := by decide +kernel
theorem dX9_cure_159 : decode cX9_cure 159 = .ok (.getfield 110, 3) := by decide +kernel
theorem dX9_cure_162 : decode cX9_cure 162 = .ok (.iload 6, 2) := by decide +kernel
theorem dX9_cure_164 : decode cX9_cure 164 = .ok (.iaload, 1) := by decide +kernel
theorem dX9_cure_165 : decode cX9_cure 165 = .ok (.aload_n 0, 1) := by decide +kernel
theorem dX9_cure_166 : decode cX9_cure 166 = .ok (.getfield 110, 3) := by decide +kernel
theorem dX9_cure_169 : decode cX9_cure 169 = .ok (.iload 7, 2) := by decide +kernel
theorem dX9_cure_171 : decode cX9_cure 171 = .ok (.iaload, 1) := by decide +kernel
theorem dX9_cure_172 : decode cX9_cure 172 = .ok (.invokevirtual 396, 3) := by decide +kernel
theorem dX9_cure_175 : decode cX9_cure 175 = .ok (.istore_n 2, 1) := by decide +kernel
theorem dX9_cure_176 : decode cX9_cure 176 = .ok (.iload_n 2, 1) := by decide +kernel
theorem dX9_cure_177 : decode cX9_cure 177 = .ok (.iconst 1, 1) := by decide +kernel
theorem dX9_cure_178 : decode cX9_cure 178 = .ok (.if_icmp .ne 7, 3) := by decide +kernel
theorem dX9_cure_181 : decode cX9_cure 181 = .ok (.iconst 2, 1) := by decide +kernel
theorem dX9_cure_182 : decode cX9_cure 182 = .ok (.goto 4, 3) := by decide +kernel
theorem dX9_cure_185 : decode cX9_cure 185 = .ok (.iconst (-1), 1) := by decide +kernel
theorem dX9_cure_186 : decode cX9_cure 186 = .ok (.istore_n 3, 1) := by decide +kernel
theorem dX9_cure_187 : decode cX9_cure 187 = .ok (.aload_n 0, 1) := by decide +kernel
theorem dX9_cure_188 : decode cX9_cure 188 = .ok (.getfield 110, 3) := by decide +kernel
theorem dX9_cure_191 : decode cX9_cure 191 = .ok (.iload 6, 2) := by decide +kernel
theorem dX9_cure_193 : decode cX9_cure 193 = .ok (.iaload, 1) := by decide +kernel
theorem dX9_cure_194 : decode cX9_cure 194 = .ok (.istore 4, 2) := by decide +kernel
theorem dX9_cure_196 : decode cX9_cure 196 = .ok (.aload_n 0, 1) := by decide +kernel
theorem dX9_cure_197 : decode cX9_cure 197 = .ok (.getfield 110, 3) := by decide +kernel
theorem dX9_cure_200 : decode cX9_cure 200 = .ok (.iload 7, 2) := by decide +kernel
theorem dX9_cure_202 : decode cX9_cure 202 = .ok (.iaload, 1) := by decide +kernel
theorem dX9_cure_203 : decode cX9_cure 203 = .ok (.istore 5, 2) := by decide +kernel
theorem dX9_cure_205 : decode cX9_cure 205 = .ok (.iinc 7 1, 3) := by decide +kernel
theorem dX9_cure_208 : decode cX9_cure 208 = .ok (.goto (-64), 3) := by decide +kernel
theorem dX9_cure_211 : decode cX9_cure 211 = .ok (.iinc 6 1, 3) := by decide +kernel
theorem dX9_cure_214 : decode cX9_cure 214 = .ok (.goto (-94), 3) := by decide +kernel
theorem dX9_cure_217 : decode cX9_cure 217 = .ok (.iload_n 2, 1) := by decide +kernel
theorem dX9_cure_218 : decode cX9_cure 218 = .ok (.bipush (-2), 2) := by decide +kernel
theorem dX9_cure_220 : decode cX9_cure 220 = .ok (.if_icmp .ne 6, 3) := by decide +kernel
theorem dX9_cure_223 : decode cX9_cure 223 = .ok (.bipush (-2), 2) := by decide +kernel
theorem dX9_cure_225 : decode cX9_cure 225 = .ok (.ireturn, 1) := by decide +kernel
theorem dX9_cure_226 : decode cX9_cure 226 = .ok (.iload_n 3, 1) := by decide +kernel
theorem dX9_cure_227 : decode cX9_cure 227 = .ok (.ifCond .lt 24, 3) := by decide +kernel
theorem dX9_cure_230 : decode cX9_cure 230 = .ok (.aload_n 0, 1) := by decide +kernel
theorem dX9_cure_231 : decode cX9_cure 231 = .ok (.iload_n 3, 1) := by decide +kernel
theorem dX9_cure_232 : decode cX9_cure 232 = .ok (.putfield 104, 3) := by decide +kernel
theorem dX9_cure_235 : decode cX9_cure 235 = .ok (.aload_n 0, 1) := by decide +kernel
theorem dX9_cure_236 : decode cX9_cure 236 = .ok (.getfield 107, 3) := by decide +kernel
theorem dX9_cure_239 : decode cX9_cure 239 = .ok (.iconst 0, 1) := by decide +kernel
theorem dX9_cure_240 : decode cX9_cure 240 = .ok (.iload 4, 2) := by decide +kernel
theorem dX9_cure_242 : decode cX9_cure 242 = .ok (.iastore, 1) := by decide +kernel
theorem dX9_cure_243 : decode cX9_cure 243 = .ok (.aload_n 0, 1) := by decide +kernel
theorem dX9_cure_244 : decode cX9_cure 244 = .ok (.getfield 107, 3) := by decide +kernel
theorem dX9_cure_247 : decode cX9_cure 247 = .ok (.iconst 1, 1) := by decide +kernel
theorem dX9_cure_248 : decode cX9_cure 248 = .ok (.iload 5, 2) := by decide +kernel
theorem dX9_cure_250 : decode cX9_cure 250 = .ok (.iastore, 1) := by decide +kernel
theorem dX9_cure_251 : decode cX9_cure 251 = .ok (.iload_n 3, 1) := by decide +kernel
theorem dX9_cure_252 : decode cX9_cure 252 = .ok (.ireturn, 1) := by decide +kernel
theorem dX9_cured_0 : decode cX9_cured 0 = .ok (.aload_n 0, 1) := by decide +kernel
theorem dX9_cured_1 : decode cX9_cured 1 = .ok (.getfield 224, 3) := by decide +kernel
theorem dX9_cured_4 : decode cX9_cured 4 = .ok (.ifCond .eq 24, 3) := by decide +kernel
theorem dX9_cured_7 : decode cX9_cured 7 = .ok (.iload_n 1, 1) := by decide +kernel
theorem dX9_cured_8 : decode cX9_cured 8 = .ok (.ifCond .lt 20, 3) := by decide +kernel
theorem dX9_cured_11 : decode cX9_cured 11 = .ok (.iload_n 1, 1) := by decide +kernel
theorem dX9_cured_12 : decode cX9_cured 12 = .ok (.aload_n 0, 1) := by decide +kernel
theorem dX9_cured_13 : decode cX9_cured 13 = .ok (.getfield 104, 3) := by decide +kernel
theorem dX9_cured_16 : decode cX9_cured 16 = .ok (.if_icmp .ge 12, 3) := by decide +kernel
theorem dX9_cured_19 : decode cX9_cured 19 = .ok (.aload_n 0, 1) := by decide +kernel
theorem dX9_cured_20 : decode cX9_cured 20 = .ok (.getfield 107, 3) := by decide +kernel
theorem dX9_cured_23 : decode cX9_cured 23 = .ok (.iload_n 1, 1) := by decide +kernel
theorem dX9_cured_24 : decode cX9_cured 24 = .ok (.iaload, 1) := by decide +kernel
theorem dX9_cured_25 : decode cX9_cured 25 = .ok (.goto 4, 3) := by decide +kernel
theorem dX9_cured_28 : decode cX9_cured 28 = .ok (.iconst (-1), 1) := by decide +kernel
theorem dX9_cured_29 : decode cX9_cured 29 = .ok (.ireturn, 1) := by decide +kernel
theorem dX9_count_0 : decode cX9_count 0 = .ok (.iload_n 1, 1) := by decide +kernel
theorem dX9_count_1 : decode cX9_count 1 = .ok (.bipush 9, 2) := by decide +kernel
theorem dX9_count_3 : decode cX9_count 3 = .ok (.if_icmp .ne 8, 3) := by decide +kernel
theorem dX9_count_6 : decode cX9_count 6 = .ok (.aload_n 0, 1) := by decide +kernel
theorem dX9_count_7 : decode cX9_count 7 = .ok (.getfield 116, 3) := by decide +kernel
theorem dX9_count_10 : decode cX9_count 10 = .ok (.ireturn, 1) := by decide +kernel
theorem dX9_count_11 : decode cX9_count 11 = .ok (.iload_n 1, 1) := by decide +kernel
theorem dX9_count_12 : decode cX9_count 12 = .ok (.ifCond .lt 9, 3) := by decide +kernel
theorem dX9_count_15 : decode cX9_count 15 = .ok (.iload_n 1, 1) := by decide +kernel
theorem dX9_count_16 : decode cX9_count 16 = .ok (.bipush 9, 2) := by decide +kernel
theorem dX9_count_18 : decode cX9_count 18 = .ok (.if_icmp .le 5, 3) := by decide +kernel
theorem dX9_count_21 : decode cX9_count 21 = .ok (.iconst (-1), 1) := by decide +kernel
theorem dX9_count_22 : decode cX9_count 22 = .ok (.ireturn, 1) := by decide +kernel
theorem dX9_count_23 : decode cX9_count 23 = .ok (.aload_n 0, 1) := by decide +kernel
theorem dX9_count_24 : decode cX9_count 24 = .ok (.getfield 224, 3) := by decide +kernel
theorem dX9_count_27 : decode cX9_count 27 = .ok (.ifCond .ne 5, 3) := by decide +kernel
theorem dX9_count_30 : decode cX9_count 30 = .ok (.iconst 0, 1) := by decide +kernel
theorem dX9_count_31 : decode cX9_count 31 = .ok (.ireturn, 1) := by decide +kernel
theorem dX9_count_32 : decode cX9_count 32 = .ok (.iload_n 1, 1) := by decide +kernel
theorem dX9_count_33 : decode cX9_count 33 = .ok (.tableswitch 193 0 7 #[47, 54, 75, 94, 113, 132, 151, 167], 47) := by decide +kernel
theorem dX9_count_80 : decode cX9_count 80 = .ok (.aload_n 0, 1) := by decide +kernel
theorem dX9_count_81 : decode cX9_count 81 = .ok (.getfield 7, 3) := by decide +kernel
theorem dX9_count_84 : decode cX9_count 84 = .ok (.iconst 0, 1) := by decide +kernel
theorem dX9_count_85 : decode cX9_count 85 = .ok (.iaload, 1) := by decide +kernel
theorem dX9_count_86 : decode cX9_count 86 = .ok (.ireturn, 1) := by decide +kernel
theorem dX9_count_87 : decode cX9_count 87 = .ok (.aload_n 0, 1) := by decide +kernel
theorem dX9_count_88 : decode cX9_count 88 = .ok (.getfield 13, 3) := by decide +kernel
theorem dX9_count_91 : decode cX9_count 91 = .ok (.iconst 0, 1) := by decide +kernel
theorem dX9_count_92 : decode cX9_count 92 = .ok (.iaload, 1) := by decide +kernel
theorem dX9_count_93 : decode cX9_count 93 = .ok (.aload_n 0, 1) := by decide +kernel
theorem dX9_count_94 : decode cX9_count 94 = .ok (.getfield 13, 3) := by decide +kernel
theorem dX9_count_97 : decode cX9_count 97 = .ok (.iconst 1, 1) := by decide +kernel
theorem dX9_count_98 : decode cX9_count 98 = .ok (.iaload, 1) := by decide +kernel
theorem dX9_count_99 : decode cX9_count 99 = .ok (.iadd, 1) := by decide +kernel
theorem dX9_count_100 : decode cX9_count 100 = .ok (.aload_n 0, 1) := by decide +kernel
theorem dX9_count_101 : decode cX9_count 101 = .ok (.getfield 13, 3) := by decide +kernel
theorem dX9_count_104 : decode cX9_count 104 = .ok (.iconst 2, 1) := by decide +kernel
theorem dX9_count_105 : decode cX9_count 105 = .ok (.iaload, 1) := by decide +kernel
theorem dX9_count_106 : decode cX9_count 106 = .ok (.iadd, 1) := by decide +kernel
theorem dX9_count_107 : decode cX9_count 107 = .ok (.ireturn, 1) := by decide +kernel
theorem dX9_count_108 : decode cX9_count 108 = .ok (.aload_n 0, 1) := by decide +kernel
theorem dX9_count_109 : decode cX9_count 109 = .ok (.iconst 1, 1) := by decide +kernel
theorem dX9_count_110 : decode cX9_count 110 = .ok (.invokevirtual 347, 3) := by decide +kernel
theorem dX9_count_113 : decode cX9_count 113 = .ok (.ifCond .eq 12, 3) := by decide +kernel
theorem dX9_count_116 : decode cX9_count 116 = .ok (.aload_n 0, 1) := by decide +kernel
theorem dX9_count_117 : decode cX9_count 117 = .ok (.getfield 59, 3) := by decide +kernel
theorem dX9_count_120 : decode cX9_count 120 = .ok (.iconst 1, 1) := by decide +kernel
theorem dX9_count_121 : decode cX9_count 121 = .ok (.iaload, 1) := by decide +kernel
theorem dX9_count_122 : decode cX9_count 122 = .ok (.goto 4, 3) := by decide +kernel
theorem dX9_count_125 : decode cX9_count 125 = .ok (.iconst (-1), 1) := by decide +kernel
theorem dX9_count_126 : decode cX9_count 126 = .ok (.ireturn, 1) := by decide +kernel
theorem dX9_count_127 : decode cX9_count 127 = .ok (.aload_n 0, 1) := by decide +kernel
theorem dX9_count_128 : decode cX9_count 128 = .ok (.iconst 0, 1) := by decide +kernel
theorem dX9_count_129 : decode cX9_count 129 = .ok (.invokevirtual 347, 3) := by decide +kernel
theorem dX9_count_132 : decode cX9_count 132 = .ok (.ifCond .eq 12, 3) := by decide +kernel
theorem dX9_count_135 : decode cX9_count 135 = .ok (.aload_n 0, 1) := by decide +kernel
theorem dX9_count_136 : decode cX9_count 136 = .ok (.getfield 59, 3) := by decide +kernel
theorem dX9_count_139 : decode cX9_count 139 = .ok (.iconst 0, 1) := by decide +kernel
theorem dX9_count_140 : decode cX9_count 140 = .ok (.iaload, 1) := by decide +kernel
theorem dX9_count_141 : decode cX9_count 141 = .ok (.goto 4, 3) := by decide +kernel
theorem dX9_count_144 : decode cX9_count 144 = .ok (.iconst (-1), 1) := by decide +kernel
theorem dX9_count_145 : decode cX9_count 145 = .ok (.ireturn, 1) := by decide +kernel
theorem dX9_count_146 : decode cX9_count 146 = .ok (.aload_n 0, 1) := by decide +kernel
theorem dX9_count_147 : decode cX9_count 147 = .ok (.iconst 1, 1) := by decide +kernel
theorem dX9_count_148 : decode cX9_count 148 = .ok (.invokevirtual 347, 3) := by decide +kernel
theorem dX9_count_151 : decode cX9_count 151 = .ok (.ifCond .eq 12, 3) := by decide +kernel
theorem dX9_count_154 : decode cX9_count 154 = .ok (.aload_n 0, 1) := by decide +kernel
theorem dX9_count_155 : decode cX9_count 155 = .ok (.getfield 72, 3) := by decide +kernel
theorem dX9_count_158 : decode cX9_count 158 = .ok (.iconst 1, 1) := by decide +kernel
theorem dX9_count_159 : decode cX9_count 159 = .ok (.iaload, 1) := by decide +kernel
theorem dX9_count_160 : decode cX9_count 160 = .ok (.goto 4, 3) := by decide +kernel
theorem dX9_count_163 : decode cX9_count 163 = .ok (.iconst (-1), 1) := by decide +kernel
theorem dX9_count_164 : decode cX9_count 164 = .ok (.ireturn, 1) := by decide +kernel
theorem dX9_count_165 : decode cX9_count 165 = .ok (.aload_n 0, 1) := by decide +kernel
theorem dX9_count_166 : decode cX9_count 166 = .ok (.iconst 0, 1) := by decide +kernel
theorem dX9_count_167 : decode cX9_count 167 = .ok (.invokevirtual 347, 3) := by decide +kernel
theorem dX9_count_170 : decode cX9_count 170 = .ok (.ifCond .eq 12, 3) := by decide +kernel
theorem dX9_count_173 : decode cX9_count 173 = .ok (.aload_n 0, 1) := by decide +kernel
theorem dX9_count_174 : decode cX9_count 174 = .ok (.getfield 72, 3) := by decide +kernel
theorem dX9_count_177 : decode cX9_count 177 = .ok (.iconst 0, 1) := by decide +kernel
theorem dX9_count_178 : decode cX9_count 178 = .ok (.iaload, 1) := by decide +kernel
theorem dX9_count_179 : decode cX9_count 179 = .ok (.goto 4, 3) := by decide +kernel
theorem dX9_count_182 : decode cX9_count 182 = .ok (.iconst (-1), 1) := by decide +kernel
theorem dX9_count_183 : decode cX9_count 183 = .ok (.ireturn, 1) := by decide +kernel
theorem dX9_count_184 : decode cX9_count 184 = .ok (.aload_n 0, 1) := by decide +kernel
theorem dX9_count_185 : decode cX9_count 185 = .ok (.getfield 84, 3) := by decide +kernel
theorem dX9_count_188 : decode cX9_count 188 = .ok (.ifCond .ge 7, 3) := by decide +kernel
theorem dX9_count_191 : decode cX9_count 191 = .ok (.iconst 0, 1) := by decide +kernel
theorem dX9_count_192 : decode cX9_count 192 = .ok (.goto 7, 3) := by decide +kernel
theorem dX9_count_195 : decode cX9_count 195 = .ok (.aload_n 0, 1) := by decide +kernel
theorem dX9_count_196 : decode cX9_count 196 = .ok (.getfield 227, 3) := by decide +kernel
theorem dX9_count_199 : decode cX9_count 199 = .ok (.ireturn, 1) := by decide +kernel
theorem dX9_count_200 : decode cX9_count 200 = .ok (.aload_n 0, 1) := by decide +kernel
theorem dX9_count_201 : decode cX9_count 201 = .ok (.getfield 84, 3) := by decide +kernel
theorem dX9_count_204 : decode cX9_count 204 = .ok (.ifCond .lt 20, 3) := by decide +kernel
theorem dX9_count_207 : decode cX9_count 207 = .ok (.aload_n 0, 1) := by decide +kernel
theorem dX9_count_208 : decode cX9_count 208 = .ok (.iconst 0, 1) := by decide +kernel
theorem dX9_count_209 : decode cX9_count 209 = .ok (.aload_n 0, 1) := by decide +kernel
theorem dX9_count_210 : decode cX9_count 210 = .ok (.getfield 78, 3) := by decide +kernel
theorem dX9_count_213 : decode cX9_count 213 = .ok (.iconst 0, 1) := by decide +kernel
theorem dX9_count_214 : decode cX9_count 214 = .ok (.invokevirtual 317, 3) := by decide +kernel
theorem dX9_count_217 : decode cX9_count 217 = .ok (.ifCond .eq 7, 3) := by decide +kernel
theorem dX9_count_220 : decode cX9_count 220 = .ok (.iconst 1, 1) := by decide +kernel
theorem dX9_count_221 : decode cX9_count 221 = .ok (.goto 4, 3) := by decide +kernel
theorem dX9_count_224 : decode cX9_count 224 = .ok (.iconst 0, 1) := by decide +kernel
theorem dX9_count_225 : decode cX9_count 225 = .ok (.ireturn, 1) := by decide +kernel
theorem dX9_count_226 : decode cX9_count 226 = .ok (.aload_n 0, 1) := by decide +kernel
theorem dX9_count_227 : decode cX9_count 227 = .ok (.invokevirtual 393, 3) := by decide +kernel
theorem dX9_count_230 : decode cX9_count 230 = .ok (.aload_n 0, 1) := by decide +kernel
theorem dX9_count_231 : decode cX9_count 231 = .ok (.getfield 381, 3) := by decide +kernel
theorem dX9_count_234 : decode cX9_count 234 = .ok (.ireturn, 1) := by decide +kernel
theorem dJ7_fill_53178_0 : decode cJ7_fill_53178 0 = .ok (.iconst 0, 1) := by decide +kernel
theorem dJ7_fill_53178_1 : decode cJ7_fill_53178 1 = .ok (.istore_n 2, 1) := by decide +kernel
theorem dJ7_fill_53178_2 : decode cJ7_fill_53178 2 = .ok (.aload_n 0, 1) := by decide +kernel
theorem dJ7_fill_53178_3 : decode cJ7_fill_53178 3 = .ok (.arraylength, 1) := by decide +kernel
theorem dJ7_fill_53178_4 : decode cJ7_fill_53178 4 = .ok (.istore_n 3, 1) := by decide +kernel
theorem dJ7_fill_53178_5 : decode cJ7_fill_53178 5 = .ok (.iload_n 2, 1) := by decide +kernel
theorem dJ7_fill_53178_6 : decode cJ7_fill_53178 6 = .ok (.iload_n 3, 1) := by decide +kernel
theorem dJ7_fill_53178_7 : decode cJ7_fill_53178 7 = .ok (.if_icmp .ge 13, 3) := by decide +kernel
theorem dJ7_fill_53178_10 : decode cJ7_fill_53178 10 = .ok (.aload_n 0, 1) := by decide +kernel
theorem dJ7_fill_53178_11 : decode cJ7_fill_53178 11 = .ok (.iload_n 2, 1) := by decide +kernel
theorem dJ7_fill_53178_12 : decode cJ7_fill_53178 12 = .ok (.iload_n 1, 1) := by decide +kernel
theorem dJ7_fill_53178_13 : decode cJ7_fill_53178 13 = .ok (.iastore, 1) := by decide +kernel
theorem dJ7_fill_53178_14 : decode cJ7_fill_53178 14 = .ok (.iinc 2 1, 3) := by decide +kernel
theorem dJ7_fill_53178_17 : decode cJ7_fill_53178 17 = .ok (.goto (-12), 3) := by decide +kernel
theorem dJ7_fill_53178_20 : decode cJ7_fill_53178 20 = .ok (.return_, 1) := by decide +kernel
set_option maxRecDepth 20000 in
theorem ggL_law_X8_init : GoodIn wsL_law wsX8_init := goodIn_r _ [8, 9, 10, 11, 12, 13, 14, 15, 16, 17, 18, 19, 20, 21, 22, 23, 24, 25, 26, 27, 28, 29, 30, 31, 32, 33, 34, 35, 36, 37, 38, 39, 40, 41, 42, 43, 44, 45, 46, 47, 48, 49, 50, 51, 52, 53, 54, 55, 56, 57, 58, 59, 60, 61, 62, 63, 64, 65, 66, 67, 68, 69, 70, 71, 72, 73, 74, 75, 76, 77, 78, 79, 80, 81, 82, 83, 84, 1098, 1099, 1100, 1101, 1102, 1103, 1104, 1105, 1106, 1107, 1108, 1109, 1162, 1163, 1164, 1165, 1166, 1167, 1168, 1169, 1170, 1171, 1172, 1173, 1174, 1175, 1176, 1177, 1178, 1179, 1180, 1181, 1182, 1183, 1184, 1185, 1186, 1187, 1188, 1189, 1190, 1191, 1192, 1193, 1194, 1195, 1196, 1197, 1198, 1199, 1200, 1201] (by decide +kernel) (by decide +kernel)
set_option maxRecDepth 20000 in
theorem gL_law_X8_init : GoodIn wsL_law (wsX8_init) := ggL_law_X8_init
set_option maxRecDepth 20000 in
theorem ggL_law_X9_init : GoodIn wsL_law wsX9_init := goodIn_r _ [87, 88, 10, 11, 46, 89, 90, 91, 92, 93, 94, 95, 96, 97, 98, 99, 100, 101, 102, 103, 104, 105, 106, 107, 108, 109, 110, 111, 112, 113, 114, 115, 12, 116, 117, 118, 119, 120, 121, 122, 123, 124, 1110, 1111, 1112, 1113, 1114, 1115, 1116, 1117, 1118, 1119, 1120, 1121, 1122, 1123, 1124, 1125, 1126, 1127, 1128, 1129, 1130, 1131, 1132, 1133, 1134, 1135, 1136, 1137, 1138, 1139, 1140, 1141, 1142, 1143, 1144, 1145, 1146, 1147, 1148, 1149, 1150, 1151, 1152, 1153, 1154, 1155, 1156, 1157, 1158, 1159, 1160, 1161] (by decide +kernel) (by decide +kernel)
set_option maxRecDepth 20000 in
theorem gL_law_X9_init : GoodIn wsL_law (wsX9_init) := ggL_law_X9_init
set_option maxRecDepth 20000 in
theorem ggL_law_X8_feed : GoodIn wsL_law wsX8_feed := goodIn_r _ [128, 129, 130, 131, 132, 2, 133, 13, 1098, 1099, 1100, 1101, 1102, 1103, 1104, 1105, 1106, 1107, 1108, 1109] (by decide +kernel) (by decide +kernel)
set_option maxRecDepth 20000 in
theorem gL_law_X8_feed : GoodIn wsL_law (wsV RL 13 RX8 yX8_feed wsX8_feed) := goodIn_app (goodIn_of _ (by decide +kernel)) ggL_law_X8_feed
set_option maxRecDepth 20000 in
theorem ggL_law_X9_feed : GoodIn wsL_law wsX9_feed := goodIn_r _ [137, 138, 139, 140, 141, 5, 142, 116, 1110, 1111, 1112, 1113, 1114, 1115, 1116, 1117, 1118, 1119, 1120, 1121, 1122, 1123, 1124, 1125, 1126, 1127, 1128, 1129, 1130, 1131, 1132, 1133, 1134, 1135, 1136, 1137, 1138, 1139, 1140, 1141, 1142, 1143, 1144, 1145, 1146, 1147, 1148, 1149, 1150, 1151, 1152, 1153, 1154, 1155, 1156, 1157, 1158, 1159, 1160, 1161] (by decide +kernel) (by decide +kernel)
set_option maxRecDepth 20000 in
theorem gL_law_X9_feed : GoodIn wsL_law (wsV RL 17 RX9 yX9_feed wsX9_feed) := goodIn_app (goodIn_of _ (by decide +kernel)) ggL_law_X9_feed
set_option maxRecDepth 20000 in
theorem ggL_law_X8_back : GoodIn wsL_law wsX8_back := goodIn_r _ [146, 129, 1098, 1099, 1100, 1101, 1102, 1103, 1104, 1105, 1106, 1107, 1108, 1109] (by decide +kernel) (by decide +kernel)
set_option maxRecDepth 20000 in
theorem gL_law_X8_back : GoodIn wsL_law (wsV RL 18 RX8 yX8_back wsX8_back) := goodIn_app (goodIn_of _ (by decide +kernel)) ggL_law_X8_back
set_option maxRecDepth 20000 in
theorem ggL_law_X9_back : GoodIn wsL_law wsX9_back := goodIn_r _ [150, 138, 1110, 1111, 1112, 1113, 1114, 1115, 1116, 1117, 1118, 1119, 1120, 1121, 1122, 1123, 1124, 1125, 1126, 1127, 1128, 1129, 1130, 1131, 1132, 1133, 1134, 1135, 1136, 1137, 1138, 1139, 1140, 1141, 1142, 1143, 1144, 1145, 1146, 1147, 1148, 1149, 1150, 1151, 1152, 1153, 1154, 1155, 1156, 1157, 1158, 1159, 1160, 1161] (by decide +kernel) (by decide +kernel)
set_option maxRecDepth 20000 in
theorem gL_law_X9_back : GoodIn wsL_law (wsV RL 22 RX9 yX9_back wsX9_back) := goodIn_app (goodIn_of _ (by decide +kernel)) ggL_law_X9_back
set_option maxRecDepth 20000 in
theorem ggL_law_X8_read : GoodIn wsL_law wsX8_read := goodIn_r _ [154, 17, 13, 129, 155, 18, 22, 156, 157, 158, 159, 160, 16, 161, 162, 45, 163, 164, 165, 44, 166, 167, 168, 169, 48, 47, 49, 170, 171, 172, 173, 174, 175, 176, 177, 178, 179, 180, 181, 182, 183, 184, 185, 186, 187, 188, 189, 190, 191, 192, 193, 194, 195, 196, 197, 198, 199, 200, 201, 202, 203, 204, 205, 206, 207, 208, 209, 210, 211, 212, 213, 214, 215, 216, 217, 218, 219, 220, 221, 222, 223, 224, 225, 226, 227, 228, 229, 230, 231, 232, 233, 234, 235, 236, 237, 21, 238, 239, 54, 55, 240, 241, 242, 243, 244, 245, 246, 247, 248, 249, 250, 251, 252, 253, 254, 255, 256, 257, 258, 259, 260, 261, 262, 263, 264, 265, 266, 267, 268, 269, 270, 271, 272, 273, 274, 275, 276, 277, 278, 279, 280, 281, 282, 283, 50, 284, 285, 286, 287, 56, 288, 289, 290, 291, 292, 293, 294, 295, 296, 297, 298, 299, 300, 301, 302, 303, 304, 305, 306, 307, 308, 309, 310, 311, 312, 313, 314, 315, 316, 317, 318, 319, 320, 321, 322, 323, 324, 325, 326, 2, 327, 26, 328, 30, 329, 31, 35, 330, 39, 331, 332, 333, 38, 334, 335, 82, 1098, 1099, 1100, 1101, 1102, 1103, 1104, 1105, 1106, 1107, 1108, 1109, 1162, 1163, 1164, 1165, 1166, 1167, 1168, 1169, 1170, 1171, 1172, 1173, 1174, 1175, 1176, 1177, 1178, 1179, 1180, 1181, 1182, 1183, 1184, 1185, 1186, 1187, 1188, 1189, 1190, 1191, 1192, 1193, 1194, 1195, 1196, 1197, 1198, 1199, 1200] (by decide +kernel) (by decide +kernel)
set_option maxRecDepth 20000 in
theorem gL_law_X8_read : GoodIn wsL_law (wsV RL 23 RX8 yX8_read wsX8_read) := goodIn_app (goodIn_of _ (by decide +kernel)) ggL_law_X8_read
set_option maxRecDepth 20000 in
theorem ggL_law_X9_read : GoodIn wsL_law wsX9_read := goodIn_r _ [339, 340, 117, 341, 342, 343, 89, 99, 138, 344, 115, 345, 109, 119, 121, 346, 347, 348, 5, 349, 116, 350, 351, 352, 353, 354, 355, 356, 357, 358, 359, 360, 361, 362, 363, 364, 365, 366, 367, 368, 369, 370, 371, 372, 373, 374, 375, 376, 377, 378, 379, 380, 381, 382, 383, 384, 385, 386, 387, 388, 389, 92, 390, 391, 392, 393, 394, 395, 396, 397, 398, 399, 400, 401, 402, 403, 404, 405, 406, 407, 408, 409, 410, 91, 93, 94, 95, 96, 97, 98, 118, 411, 90, 412, 413, 414, 415, 416, 417, 418, 419, 420, 421, 422, 423, 424, 425, 426, 427, 428, 429, 430, 431, 432, 433, 434, 435, 436, 437, 438, 439, 440, 441, 442, 443, 444, 445, 446, 447, 448, 449, 450, 451, 452, 453, 454, 1110, 1111, 1112, 1113, 1114, 1115, 1116, 1117, 1118, 1119, 1120, 1121, 1122, 1123, 1124, 1125, 1126, 1127, 1128, 1129, 1130, 1131, 1132, 1133, 1134, 1135, 1136, 1137, 1138, 1139, 1140, 1141, 1142, 1143, 1144, 1145, 1146, 1147, 1148, 1149, 1150, 1151, 1152, 1153, 1154, 1155, 1156, 1157, 1158, 1159, 1160, 1161] (by decide +kernel) (by decide +kernel)
set_option maxRecDepth 20000 in
theorem gL_law_X9_read : GoodIn wsL_law (wsV RL 27 RX9 yX9_read wsX9_read) := goodIn_app (goodIn_of _ (by decide +kernel)) ggL_law_X9_read
set_option maxRecDepth 20000 in
theorem ggL_law_X8_place : GoodIn wsL_law wsX8_place := goodIn_r _ [458, 18, 1098, 1099, 1100, 1101, 1102, 1103, 1104, 1105, 1106, 1107, 1108, 1109] (by decide +kernel) (by decide +kernel)
set_option maxRecDepth 20000 in
theorem gL_law_X8_place : GoodIn wsL_law (wsV RL 28 RX8 yX8_place wsX8_place) := goodIn_app (goodIn_of _ (by decide +kernel)) ggL_law_X8_place
set_option maxRecDepth 20000 in
theorem ggL_law_X9_place : GoodIn wsL_law wsX9_place := goodIn_r _ [462, 117, 1110, 1111, 1112, 1113, 1114, 1115, 1116, 1117, 1118, 1119, 1120, 1121, 1122, 1123, 1124, 1125, 1126, 1127, 1128, 1129, 1130, 1131, 1132, 1133, 1134, 1135, 1136, 1137, 1138, 1139, 1140, 1141, 1142, 1143, 1144, 1145, 1146, 1147, 1148, 1149, 1150, 1151, 1152, 1153, 1154, 1155, 1156, 1157, 1158, 1159, 1160, 1161] (by decide +kernel) (by decide +kernel)
set_option maxRecDepth 20000 in
theorem gL_law_X9_place : GoodIn wsL_law (wsV RL 31 RX9 yX9_place wsX9_place) := goodIn_app (goodIn_of _ (by decide +kernel)) ggL_law_X9_place
set_option maxRecDepth 20000 in
theorem ggL_law_X8_ins : GoodIn wsL_law wsX8_ins := goodIn_r _ [466, 22, 467, 468, 469, 470, 2, 471, 157, 472, 473, 321, 322, 21, 323, 56, 288, 289, 290, 1098, 1099, 1100, 1101, 1102, 1103, 1104, 1105, 1106, 1107, 1108, 1109, 1174, 1175, 1176, 1177] (by decide +kernel) (by decide +kernel)
set_option maxRecDepth 20000 in
theorem gL_law_X8_ins : GoodIn wsL_law (wsV RL 32 RX8 yX8_ins wsX8_ins) := goodIn_app (goodIn_of _ (by decide +kernel)) ggL_law_X8_ins
set_option maxRecDepth 20000 in
theorem ggL_law_X9_ins : GoodIn wsL_law wsX9_ins := goodIn_r _ [477, 344, 89, 90, 91, 92, 93, 94, 95, 96, 97, 98, 1110, 1111, 1112, 1113, 1114, 1115, 1116, 1117, 1118, 1119, 1120, 1121, 1122, 1123, 1124, 1125, 1126, 1127, 1128, 1129, 1130, 1131, 1132, 1133, 1134, 1135, 1136, 1137, 1138, 1139, 1140, 1141, 1142, 1143, 1144, 1145, 1146, 1147, 1148, 1149, 1150, 1151, 1152, 1153, 1154, 1155, 1156, 1157, 1158, 1159, 1160, 1161] (by decide +kernel) (by decide +kernel)
set_option maxRecDepth 20000 in
theorem gL_law_X9_ins : GoodIn wsL_law (wsV RL 36 RX9 yX9_ins wsX9_ins) := goodIn_app (goodIn_of _ (by decide +kernel)) ggL_law_X9_ins
set_option maxRecDepth 20000 in
theorem ggL_law_X8_begin : GoodIn wsL_law wsX8_begin := goodIn_r _ [481, 157, 26, 22, 482, 483, 2, 484, 485, 486, 487, 25, 488, 489, 490, 491, 63, 492, 493, 494, 62, 495, 68, 496, 497, 498, 499, 500, 501, 241, 242, 243, 1098, 1099, 1100, 1101, 1102, 1103, 1104, 1105, 1106, 1107, 1108, 1109, 1178, 1179, 1180, 1181, 1182, 1201, 1174, 1175, 1176, 1177] (by decide +kernel) (by decide +kernel)
set_option maxRecDepth 20000 in
theorem gL_law_X8_begin : GoodIn wsL_law (wsV RL 37 RX8 yX8_begin wsX8_begin) := goodIn_app (goodIn_of _ (by decide +kernel)) ggL_law_X8_begin
set_option maxRecDepth 20000 in
theorem ggL_law_X9_begin : GoodIn wsL_law wsX9_begin := goodIn_r _ [505, 344, 115, 345, 506, 507, 508, 5, 509, 112, 99, 510, 511, 512, 513, 113, 1110, 1111, 1112, 1113, 1114, 1115, 1116, 1117, 1118, 1119, 1120, 1121, 1122, 1123, 1124, 1125, 1126, 1127, 1128, 1129, 1130, 1131, 1132, 1133, 1134, 1135, 1136, 1137, 1138, 1139, 1140, 1141, 1142, 1143, 1144, 1145, 1146, 1147, 1148, 1149, 1150, 1151, 1152, 1153, 1154, 1155, 1156, 1157, 1158, 1159, 1160, 1161] (by decide +kernel) (by decide +kernel)
set_option maxRecDepth 20000 in
theorem gL_law_X9_begin : GoodIn wsL_law (wsV RL 41 RX9 yX9_begin wsX9_begin) := goodIn_app (goodIn_of _ (by decide +kernel)) ggL_law_X9_begin
set_option maxRecDepth 20000 in
theorem ggL_law_X8_step : GoodIn wsL_law wsX8_step := goodIn_r _ [517, 26, 328, 22, 518, 519, 520, 25, 521, 491, 63, 490, 64, 522, 523, 524, 62, 525, 526, 527, 528, 529, 530, 531, 68, 532, 533, 534, 535, 536, 321, 322, 21, 323, 56, 288, 289, 290, 537, 538, 539, 540, 541, 542, 543, 544, 545, 546, 547, 548, 549, 550, 551, 497, 498, 499, 500, 552, 553, 554, 555, 556, 557, 558, 559, 560, 561, 562, 563, 564, 565, 566, 567, 568, 569, 570, 571, 572, 573, 574, 575, 576, 577, 578, 579, 580, 581, 582, 1098, 1099, 1100, 1101, 1102, 1103, 1104, 1105, 1106, 1107, 1108, 1109, 1178, 1179, 1180, 1181, 1182, 1174, 1175, 1176, 1177, 1201] (by decide +kernel) (by decide +kernel)
set_option maxRecDepth 20000 in
theorem gL_law_X8_step : GoodIn wsL_law (wsV RL 42 RX8 yX8_step wsX8_step) := goodIn_app (goodIn_of _ (by decide +kernel)) ggL_law_X8_step
set_option maxRecDepth 20000 in
theorem ggL_law_X9_step : GoodIn wsL_law wsX9_step := goodIn_r _ [586, 115, 114, 345, 113, 587, 588, 589, 5, 590, 112, 591, 592, 593, 594, 89, 90, 91, 595, 596, 597, 598, 599, 600, 601, 93, 92, 94, 95, 96, 97, 98, 602, 603, 604, 605, 606, 607, 608, 609, 610, 611, 612, 613, 614, 615, 616, 617, 618, 619, 620, 621, 510, 511, 512, 513, 1110, 1111, 1112, 1113, 1114, 1115, 1116, 1117, 1118, 1119, 1120, 1121, 1122, 1123, 1124, 1125, 1126, 1127, 1128, 1129, 1130, 1131, 1132, 1133, 1134, 1135, 1136, 1137, 1138, 1139, 1140, 1141, 1142, 1143, 1144, 1145, 1146, 1147, 1148, 1149, 1150, 1151, 1152, 1153, 1154, 1155, 1156, 1157, 1158, 1159, 1160, 1161] (by decide +kernel) (by decide +kernel)
set_option maxRecDepth 20000 in
theorem gL_law_X9_step : GoodIn wsL_law (wsV RL 45 RX9 yX9_step wsX9_step) := goodIn_app (goodIn_of _ (by decide +kernel)) ggL_law_X9_step
set_option maxRecDepth 20000 in
theorem ggL_law_X8_undo : GoodIn wsL_law wsX8_undo := goodIn_r _ [625, 26, 328, 22, 626, 627, 628, 25, 629, 491, 63, 64, 490, 492, 493, 494, 62, 495, 68, 496, 497, 498, 499, 500, 501, 241, 242, 243, 543, 544, 545, 546, 547, 548, 549, 550, 551, 552, 553, 554, 555, 556, 532, 533, 534, 535, 557, 289, 21, 290, 558, 559, 560, 561, 528, 529, 530, 531, 562, 563, 564, 565, 566, 567, 568, 569, 570, 571, 572, 573, 574, 575, 576, 577, 578, 579, 580, 581, 582, 1098, 1099, 1100, 1101, 1102, 1103, 1104, 1105, 1106, 1107, 1108, 1109, 1178, 1179, 1180, 1181, 1182, 1201, 1174, 1175, 1176, 1177] (by decide +kernel) (by decide +kernel)
set_option maxRecDepth 20000 in
theorem gL_law_X8_undo : GoodIn wsL_law (wsV RL 46 RX8 yX8_undo wsX8_undo) := goodIn_app (goodIn_of _ (by decide +kernel)) ggL_law_X8_undo
set_option maxRecDepth 20000 in
theorem ggL_law_X9_undo : GoodIn wsL_law wsX9_undo := goodIn_r _ [633, 115, 345, 113, 114, 1110, 1111, 1112, 1113, 1114, 1115, 1116, 1117, 1118, 1119, 1120, 1121, 1122, 1123, 1124, 1125, 1126, 1127, 1128, 1129, 1130, 1131, 1132, 1133, 1134, 1135, 1136, 1137, 1138, 1139, 1140, 1141, 1142, 1143, 1144, 1145, 1146, 1147, 1148, 1149, 1150, 1151, 1152, 1153, 1154, 1155, 1156, 1157, 1158, 1159, 1160, 1161] (by decide +kernel) (by decide +kernel)
set_option maxRecDepth 20000 in
theorem gL_law_X9_undo : GoodIn wsL_law (wsV RL 50 RX9 yX9_undo wsX9_undo) := goodIn_app (goodIn_of _ (by decide +kernel)) ggL_law_X9_undo
set_option maxRecDepth 20000 in
theorem ggL_law_X8_register : GoodIn wsL_law wsX8_register := goodIn_r _ [637, 26, 328, 638, 639, 468, 469, 470, 2, 471, 157, 22, 472, 1098, 1099, 1100, 1101, 1102, 1103, 1104, 1105, 1106, 1107, 1108, 1109, 1178, 1179, 1180, 1181, 1182, 1201, 1174, 1175, 1176, 1177] (by decide +kernel) (by decide +kernel)
set_option maxRecDepth 20000 in
theorem gL_law_X8_register : GoodIn wsL_law (wsV RL 51 RX8 yX8_register wsX8_register) := goodIn_app (goodIn_of _ (by decide +kernel)) ggL_law_X8_register
set_option maxRecDepth 20000 in
theorem ggL_law_X9_register_ : GoodIn wsL_law wsX9_register_ := goodIn_r _ [643, 113, 644, 645, 646, 5, 647, 115, 89, 1110, 1111, 1112, 1113, 1114, 1115, 1116, 1117, 1118, 1119, 1120, 1121, 1122, 1123, 1124, 1125, 1126, 1127, 1128, 1129, 1130, 1131, 1132, 1133, 1134, 1135, 1136, 1137, 1138, 1139, 1140, 1141, 1142, 1143, 1144, 1145, 1146, 1147, 1148, 1149, 1150, 1151, 1152, 1153, 1154, 1155, 1156, 1157, 1158, 1159, 1160, 1161] (by decide +kernel) (by decide +kernel)
set_option maxRecDepth 20000 in
theorem gL_law_X9_register_ : GoodIn wsL_law (wsV RL 55 RX9 yX9_register_ wsX9_register_) := goodIn_app (goodIn_of _ (by decide +kernel)) ggL_law_X9_register_
set_option maxRecDepth 20000 in
theorem ggL_law_X8_memory : GoodIn wsL_law wsX8_memory := goodIn_r _ [651, 26, 328, 638, 639, 1098, 1099, 1100, 1101, 1102, 1103, 1104, 1105, 1106, 1107, 1108, 1109, 1178, 1179, 1180, 1181, 1182, 1201] (by decide +kernel) (by decide +kernel)
set_option maxRecDepth 20000 in
theorem gL_law_X8_memory : GoodIn wsL_law (wsV RL 56 RX8 yX8_memory wsX8_memory) := goodIn_app (goodIn_of _ (by decide +kernel)) ggL_law_X8_memory
set_option maxRecDepth 20000 in
theorem ggL_law_X9_memory : GoodIn wsL_law wsX9_memory := goodIn_r _ [655, 115, 113, 1110, 1111, 1112, 1113, 1114, 1115, 1116, 1117, 1118, 1119, 1120, 1121, 1122, 1123, 1124, 1125, 1126, 1127, 1128, 1129, 1130, 1131, 1132, 1133, 1134, 1135, 1136, 1137, 1138, 1139, 1140, 1141, 1142, 1143, 1144, 1145, 1146, 1147, 1148, 1149, 1150, 1151, 1152, 1153, 1154, 1155, 1156, 1157, 1158, 1159, 1160, 1161] (by decide +kernel) (by decide +kernel)
set_option maxRecDepth 20000 in
theorem gL_law_X9_memory : GoodIn wsL_law (wsV RL 59 RX9 yX9_memory wsX9_memory) := goodIn_app (goodIn_of _ (by decide +kernel)) ggL_law_X9_memory
set_option maxRecDepth 20000 in
theorem ggL_law_X8_next : GoodIn wsL_law wsX8_next := goodIn_r _ [659, 26, 328, 638, 468, 469, 470, 2, 471, 157, 22, 472, 660, 533, 534, 62, 535, 68, 1098, 1099, 1100, 1101, 1102, 1103, 1104, 1105, 1106, 1107, 1108, 1109, 1178, 1179, 1180, 1181, 1182, 1174, 1175, 1176, 1177, 1201] (by decide +kernel) (by decide +kernel)
set_option maxRecDepth 20000 in
theorem gL_law_X8_next : GoodIn wsL_law (wsV RL 60 RX8 yX8_next wsX8_next) := goodIn_app (goodIn_of _ (by decide +kernel)) ggL_law_X8_next
set_option maxRecDepth 20000 in
theorem ggL_law_X9_next : GoodIn wsL_law wsX9_next := goodIn_r _ [664, 113, 644, 645, 646, 5, 647, 115, 89, 1110, 1111, 1112, 1113, 1114, 1115, 1116, 1117, 1118, 1119, 1120, 1121, 1122, 1123, 1124, 1125, 1126, 1127, 1128, 1129, 1130, 1131, 1132, 1133, 1134, 1135, 1136, 1137, 1138, 1139, 1140, 1141, 1142, 1143, 1144, 1145, 1146, 1147, 1148, 1149, 1150, 1151, 1152, 1153, 1154, 1155, 1156, 1157, 1158, 1159, 1160, 1161] (by decide +kernel) (by decide +kernel)
set_option maxRecDepth 20000 in
theorem gL_law_X9_next : GoodIn wsL_law (wsV RL 63 RX9 yX9_next wsX9_next) := goodIn_app (goodIn_of _ (by decide +kernel)) ggL_law_X9_next
set_option maxRecDepth 20000 in
theorem ggL_law_X8_store : GoodIn wsL_law wsX8_store := goodIn_r _ [668, 26, 328, 638, 468, 469, 470, 2, 471, 157, 22, 472, 669, 529, 530, 62, 531, 68, 670, 554, 555, 556, 671, 563, 564, 565, 1098, 1099, 1100, 1101, 1102, 1103, 1104, 1105, 1106, 1107, 1108, 1109, 1178, 1179, 1180, 1181, 1182, 1174, 1175, 1176, 1177, 1201] (by decide +kernel) (by decide +kernel)
set_option maxRecDepth 20000 in
theorem gL_law_X8_store : GoodIn wsL_law (wsV RL 64 RX8 yX8_store wsX8_store) := goodIn_app (goodIn_of _ (by decide +kernel)) ggL_law_X8_store
set_option maxRecDepth 20000 in
theorem ggL_law_X9_store : GoodIn wsL_law wsX9_store := goodIn_r _ [675, 113, 644, 645, 646, 5, 647, 115, 89, 595, 596, 597, 1110, 1111, 1112, 1113, 1114, 1115, 1116, 1117, 1118, 1119, 1120, 1121, 1122, 1123, 1124, 1125, 1126, 1127, 1128, 1129, 1130, 1131, 1132, 1133, 1134, 1135, 1136, 1137, 1138, 1139, 1140, 1141, 1142, 1143, 1144, 1145, 1146, 1147, 1148, 1149, 1150, 1151, 1152, 1153, 1154, 1155, 1156, 1157, 1158, 1159, 1160, 1161] (by decide +kernel) (by decide +kernel)
set_option maxRecDepth 20000 in
theorem gL_law_X9_store : GoodIn wsL_law (wsV RL 67 RX9 yX9_store wsX9_store) := goodIn_app (goodIn_of _ (by decide +kernel)) ggL_law_X9_store
set_option maxRecDepth 20000 in
theorem ggL_law_X8_outcomes : GoodIn wsL_law wsX8_outcomes := goodIn_r _ [679, 157, 680, 681, 482, 483, 2, 484, 682, 683, 684, 685, 30, 31, 329, 22, 686, 687, 688, 689, 690, 691, 692, 693, 694, 695, 696, 10, 11, 46, 697, 698, 699, 61, 62, 700, 701, 702, 703, 704, 705, 65, 66, 67, 68, 706, 707, 708, 709, 710, 711, 712, 713, 498, 499, 500, 714, 241, 242, 243, 715, 716, 717, 526, 718, 493, 494, 495, 496, 497, 501, 719, 720, 721, 722, 723, 724, 725, 726, 727, 728, 729, 730, 731, 732, 733, 734, 735, 736, 737, 738, 739, 740, 741, 742, 743, 744, 745, 746, 747, 748, 749, 750, 751, 752, 753, 754, 755, 756, 757, 758, 759, 527, 760, 761, 762, 763, 764, 765, 766, 767, 768, 523, 524, 525, 528, 529, 530, 531, 532, 533, 534, 535, 536, 321, 322, 21, 323, 56, 288, 289, 290, 537, 538, 539, 540, 541, 542, 769, 544, 545, 546, 547, 548, 549, 550, 551, 552, 553, 554, 555, 556, 557, 558, 559, 560, 561, 562, 563, 564, 565, 566, 567, 568, 569, 570, 571, 572, 573, 574, 575, 576, 577, 578, 579, 580, 581, 582, 770, 771, 772, 29, 773, 774, 775, 776, 777, 778, 779, 72, 780, 781, 782, 783, 784, 785, 786, 787, 788, 789, 790, 791, 792, 793, 794, 795, 796, 797, 798, 799, 800, 1098, 1099, 1100, 1101, 1102, 1103, 1104, 1105, 1106, 1107, 1108, 1109, 1183, 1184, 1185, 1186, 1187, 1202, 1203, 1204, 1205, 1206, 1207, 1208, 1209, 1210, 1211, 1201, 1174, 1175, 1176, 1177] (by decide +kernel) (by decide +kernel)
set_option maxRecDepth 20000 in
theorem gL_law_X8_outcomes : GoodIn wsL_law (wsV RL 68 RX8 yX8_outcomes wsX8_outcomes) := goodIn_app (goodIn_of _ (by decide +kernel)) ggL_law_X8_outcomes
set_option maxRecDepth 20000 in
theorem ggL_law_X9_outcomes : GoodIn wsL_law wsX9_outcomes := goodIn_r _ [804, 344, 111, 805, 806, 807, 5, 808, 109, 108, 809, 810, 811, 812, 106, 105, 101, 110, 506, 507, 508, 509, 112, 99, 813, 814, 815, 816, 104, 102, 103, 817, 818, 819, 820, 821, 822, 823, 824, 825, 826, 827, 828, 829, 591, 592, 593, 594, 89, 90, 91, 595, 596, 597, 598, 599, 600, 601, 93, 92, 94, 95, 96, 97, 98, 602, 603, 604, 605, 606, 607, 608, 609, 610, 611, 612, 613, 614, 615, 616, 617, 618, 619, 620, 621, 830, 831, 832, 833, 834, 835, 836, 837, 838, 839, 840, 841, 842, 843, 844, 845, 846, 847, 848, 849, 1110, 1111, 1112, 1113, 1114, 1115, 1116, 1117, 1118, 1119, 1120, 1121, 1122, 1123, 1124, 1125, 1126, 1127, 1128, 1129, 1130, 1131, 1132, 1133, 1134, 1135, 1136, 1137, 1138, 1139, 1140, 1141, 1142, 1143, 1144, 1145, 1146, 1147, 1148, 1149, 1150, 1151, 1152, 1153, 1154, 1155, 1156, 1157, 1158, 1159, 1160, 1161] (by decide +kernel) (by decide +kernel)
set_option maxRecDepth 20000 in
theorem gL_law_X9_outcomes : GoodIn wsL_law (wsV RL 71 RX9 yX9_outcomes wsX9_outcomes) := goodIn_app (goodIn_of _ (by decide +kernel)) ggL_law_X9_outcomes
set_option maxRecDepth 20000 in
theorem ggL_law_X8_outcome : GoodIn wsL_law wsX8_outcome := goodIn_r _ [853, 157, 482, 483, 2, 484, 682, 683, 684, 685, 30, 31, 329, 22, 686, 687, 688, 689, 690, 691, 692, 693, 694, 695, 696, 10, 11, 46, 697, 698, 699, 61, 62, 700, 701, 702, 703, 704, 705, 65, 66, 67, 68, 706, 707, 708, 709, 710, 711, 712, 713, 498, 499, 500, 714, 241, 242, 243, 715, 716, 717, 526, 718, 493, 494, 495, 496, 497, 501, 719, 720, 721, 722, 723, 724, 725, 726, 727, 728, 729, 730, 731, 732, 733, 734, 735, 736, 737, 738, 739, 740, 741, 742, 743, 744, 745, 746, 747, 748, 749, 750, 751, 752, 753, 754, 755, 756, 757, 758, 759, 527, 760, 761, 762, 763, 764, 765, 766, 767, 768, 523, 524, 525, 528, 529, 530, 531, 532, 533, 534, 535, 536, 321, 322, 21, 323, 56, 288, 289, 290, 537, 538, 539, 540, 541, 542, 769, 544, 545, 546, 547, 548, 549, 550, 551, 552, 553, 554, 555, 556, 557, 558, 559, 560, 561, 562, 563, 564, 565, 566, 567, 568, 569, 570, 571, 572, 573, 574, 575, 576, 577, 578, 579, 580, 581, 582, 770, 771, 772, 29, 773, 774, 775, 776, 777, 778, 779, 72, 780, 781, 782, 783, 784, 785, 786, 787, 788, 789, 790, 791, 792, 793, 794, 795, 796, 797, 798, 799, 800, 854, 855, 856, 857, 858, 859, 860, 861, 1098, 1099, 1100, 1101, 1102, 1103, 1104, 1105, 1106, 1107, 1108, 1109, 1183, 1184, 1185, 1186, 1187, 1202, 1203, 1204, 1205, 1206, 1207, 1208, 1209, 1210, 1211, 1201, 1174, 1175, 1176, 1177] (by decide +kernel) (by decide +kernel)
set_option maxRecDepth 20000 in
theorem gL_law_X8_outcome : GoodIn wsL_law (wsV RL 72 RX8 yX8_outcome wsX8_outcome) := goodIn_app (goodIn_of _ (by decide +kernel)) ggL_law_X8_outcome
set_option maxRecDepth 20000 in
theorem ggL_law_X9_outcome : GoodIn wsL_law wsX9_outcome := goodIn_r _ [865, 110, 866, 867, 868, 5, 869, 344, 111, 805, 806, 807, 808, 109, 108, 809, 810, 811, 812, 106, 105, 101, 506, 507, 508, 509, 112, 99, 813, 814, 815, 816, 104, 102, 103, 817, 818, 819, 820, 821, 822, 823, 824, 825, 826, 827, 828, 829, 591, 592, 593, 594, 89, 90, 91, 595, 596, 597, 598, 599, 600, 601, 93, 92, 94, 95, 96, 97, 98, 602, 603, 604, 605, 606, 607, 608, 609, 610, 611, 612, 613, 614, 615, 616, 617, 618, 619, 620, 621, 830, 831, 832, 833, 834, 835, 836, 837, 838, 839, 840, 841, 842, 843, 844, 845, 846, 847, 848, 849, 1110, 1111, 1112, 1113, 1114, 1115, 1116, 1117, 1118, 1119, 1120, 1121, 1122, 1123, 1124, 1125, 1126, 1127, 1128, 1129, 1130, 1131, 1132, 1133, 1134, 1135, 1136, 1137, 1138, 1139, 1140, 1141, 1142, 1143, 1144, 1145, 1146, 1147, 1148, 1149, 1150, 1151, 1152, 1153, 1154, 1155, 1156, 1157, 1158, 1159, 1160, 1161] (by decide +kernel) (by decide +kernel)
set_option maxRecDepth 20000 in
theorem gL_law_X9_outcome : GoodIn wsL_law (wsV RL 75 RX9 yX9_outcome wsX9_outcome) := goodIn_app (goodIn_of _ (by decide +kernel)) ggL_law_X9_outcome
set_option maxRecDepth 20000 in
theorem ggL_law_X8_schedule : GoodIn wsL_law wsX8_schedule := goodIn_r _ [873, 157, 482, 483, 2, 484, 682, 683, 684, 685, 30, 31, 329, 22, 686, 687, 688, 689, 690, 691, 692, 693, 694, 695, 696, 10, 11, 46, 697, 698, 699, 61, 62, 700, 701, 702, 703, 704, 705, 65, 66, 67, 68, 706, 707, 708, 709, 710, 711, 712, 713, 498, 499, 500, 714, 241, 242, 243, 715, 716, 717, 526, 718, 493, 494, 495, 496, 497, 501, 719, 720, 721, 722, 723, 724, 725, 726, 727, 728, 729, 730, 731, 732, 733, 734, 735, 736, 737, 738, 739, 740, 741, 742, 743, 744, 745, 746, 747, 748, 749, 750, 751, 752, 753, 754, 755, 756, 757, 758, 759, 527, 760, 761, 762, 763, 764, 765, 766, 767, 768, 523, 524, 525, 528, 529, 530, 531, 532, 533, 534, 535, 536, 321, 322, 21, 323, 56, 288, 289, 290, 537, 538, 539, 540, 541, 542, 769, 544, 545, 546, 547, 548, 549, 550, 551, 552, 553, 554, 555, 556, 557, 558, 559, 560, 561, 562, 563, 564, 565, 566, 567, 568, 569, 570, 571, 572, 573, 574, 575, 576, 577, 578, 579, 580, 581, 582, 770, 771, 772, 29, 773, 774, 775, 776, 777, 778, 779, 72, 780, 781, 782, 783, 784, 785, 786, 787, 788, 789, 790, 791, 792, 793, 794, 795, 796, 797, 798, 799, 800, 854, 855, 856, 857, 874, 875, 876, 877, 1098, 1099, 1100, 1101, 1102, 1103, 1104, 1105, 1106, 1107, 1108, 1109, 1183, 1184, 1185, 1186, 1187, 1202, 1203, 1204, 1205, 1206, 1207, 1208, 1209, 1210, 1211, 1201, 1174, 1175, 1176, 1177] (by decide +kernel) (by decide +kernel)
set_option maxRecDepth 20000 in
theorem gL_law_X8_schedule : GoodIn wsL_law (wsV RL 76 RX8 yX8_schedule wsX8_schedule) := goodIn_app (goodIn_of _ (by decide +kernel)) ggL_law_X8_schedule
set_option maxRecDepth 20000 in
theorem ggL_law_X9_schedule : GoodIn wsL_law wsX9_schedule := goodIn_r _ [881, 110, 866, 867, 868, 5, 869, 344, 111, 805, 806, 807, 808, 109, 108, 809, 810, 811, 812, 106, 105, 101, 506, 507, 508, 509, 112, 99, 813, 814, 815, 816, 104, 102, 103, 817, 818, 819, 820, 821, 822, 823, 824, 825, 826, 827, 828, 829, 591, 592, 593, 594, 89, 90, 91, 595, 596, 597, 598, 599, 600, 601, 93, 92, 94, 95, 96, 97, 98, 602, 603, 604, 605, 606, 607, 608, 609, 610, 611, 612, 613, 614, 615, 616, 617, 618, 619, 620, 621, 830, 831, 832, 833, 834, 835, 836, 837, 838, 839, 840, 841, 842, 843, 844, 845, 846, 847, 848, 849, 882, 883, 884, 885, 1110, 1111, 1112, 1113, 1114, 1115, 1116, 1117, 1118, 1119, 1120, 1121, 1122, 1123, 1124, 1125, 1126, 1127, 1128, 1129, 1130, 1131, 1132, 1133, 1134, 1135, 1136, 1137, 1138, 1139, 1140, 1141, 1142, 1143, 1144, 1145, 1146, 1147, 1148, 1149, 1150, 1151, 1152, 1153, 1154, 1155, 1156, 1157, 1158, 1159, 1160, 1161] (by decide +kernel) (by decide +kernel)
set_option maxRecDepth 20000 in
theorem gL_law_X9_schedule : GoodIn wsL_law (wsV RL 79 RX9 yX9_schedule wsX9_schedule) := goodIn_app (goodIn_of _ (by decide +kernel)) ggL_law_X9_schedule
set_option maxRecDepth 20000 in
theorem ggL_law_X8_more : GoodIn wsL_law wsX8_more := goodIn_r _ [889, 157, 680, 682, 683, 684, 2, 685, 30, 31, 329, 22, 686, 687, 688, 689, 690, 691, 692, 693, 694, 695, 696, 10, 11, 46, 697, 698, 699, 61, 62, 700, 701, 702, 703, 704, 705, 65, 66, 67, 68, 706, 707, 708, 709, 710, 711, 712, 713, 498, 499, 500, 714, 241, 242, 243, 715, 716, 717, 526, 718, 493, 494, 495, 496, 497, 501, 719, 720, 721, 722, 723, 724, 725, 726, 727, 728, 729, 730, 731, 732, 733, 734, 735, 736, 737, 738, 739, 740, 741, 742, 743, 744, 745, 746, 747, 748, 749, 750, 751, 752, 753, 754, 755, 756, 757, 758, 759, 527, 760, 761, 762, 763, 764, 765, 766, 767, 768, 523, 524, 525, 528, 529, 530, 531, 532, 533, 534, 535, 536, 321, 322, 21, 323, 56, 288, 289, 290, 537, 538, 539, 540, 541, 542, 769, 544, 545, 546, 547, 548, 549, 550, 551, 552, 553, 554, 555, 556, 557, 558, 559, 560, 561, 562, 563, 564, 565, 566, 567, 568, 569, 570, 571, 572, 573, 574, 575, 576, 577, 578, 579, 580, 581, 582, 770, 771, 772, 29, 773, 774, 775, 776, 777, 778, 779, 72, 780, 781, 782, 783, 784, 785, 786, 787, 788, 789, 790, 791, 792, 793, 794, 795, 796, 797, 798, 799, 800, 890, 891, 892, 893, 894, 895, 896, 897, 898, 859, 860, 861, 899, 900, 901, 902, 1098, 1099, 1100, 1101, 1102, 1103, 1104, 1105, 1106, 1107, 1108, 1109, 1183, 1184, 1185, 1186, 1187, 1202, 1203, 1204, 1205, 1206, 1207, 1208, 1209, 1210, 1211, 1201, 1174, 1175, 1176, 1177] (by decide +kernel) (by decide +kernel)
set_option maxRecDepth 20000 in
theorem gL_law_X8_more : GoodIn wsL_law (wsV RL 80 RX8 yX8_more wsX8_more) := goodIn_app (goodIn_of _ (by decide +kernel)) ggL_law_X8_more
set_option maxRecDepth 20000 in
theorem ggL_law_X9_more : GoodIn wsL_law wsX9_more := goodIn_r _ [906, 344, 111, 805, 806, 807, 5, 808, 109, 108, 809, 810, 811, 812, 106, 105, 101, 110, 506, 507, 508, 509, 112, 99, 813, 814, 815, 816, 104, 102, 103, 817, 818, 819, 820, 821, 822, 823, 824, 825, 826, 827, 828, 829, 591, 592, 593, 594, 89, 90, 91, 595, 596, 597, 598, 599, 600, 601, 93, 92, 94, 95, 96, 97, 98, 602, 603, 604, 605, 606, 607, 608, 609, 610, 611, 612, 613, 614, 615, 616, 617, 618, 619, 620, 621, 830, 831, 832, 833, 834, 835, 836, 837, 838, 839, 840, 841, 842, 843, 844, 845, 846, 847, 848, 849, 907, 908, 909, 910, 1110, 1111, 1112, 1113, 1114, 1115, 1116, 1117, 1118, 1119, 1120, 1121, 1122, 1123, 1124, 1125, 1126, 1127, 1128, 1129, 1130, 1131, 1132, 1133, 1134, 1135, 1136, 1137, 1138, 1139, 1140, 1141, 1142, 1143, 1144, 1145, 1146, 1147, 1148, 1149, 1150, 1151, 1152, 1153, 1154, 1155, 1156, 1157, 1158, 1159, 1160, 1161] (by decide +kernel) (by decide +kernel)
set_option maxRecDepth 20000 in
theorem gL_law_X9_more : GoodIn wsL_law (wsV RL 83 RX9 yX9_more wsX9_more) := goodIn_app (goodIn_of _ (by decide +kernel)) ggL_law_X9_more
set_option maxRecDepth 20000 in
theorem ggL_law_X8_race : GoodIn wsL_law wsX8_race := goodIn_r _ [914, 157, 35, 915, 916, 917, 918, 2, 919, 330, 22, 686, 687, 688, 689, 690, 691, 692, 693, 694, 695, 696, 10, 11, 46, 697, 698, 699, 61, 62, 700, 701, 702, 703, 704, 705, 65, 66, 67, 68, 920, 921, 922, 34, 923, 924, 925, 926, 927, 928, 929, 76, 930, 498, 499, 500, 931, 707, 708, 709, 710, 711, 712, 713, 714, 241, 242, 243, 715, 716, 717, 526, 718, 493, 494, 495, 496, 497, 501, 719, 720, 721, 722, 723, 724, 725, 726, 727, 728, 729, 730, 731, 732, 733, 734, 735, 736, 737, 738, 739, 740, 741, 742, 743, 744, 745, 746, 747, 748, 749, 750, 751, 752, 753, 754, 755, 756, 757, 758, 759, 527, 760, 761, 762, 763, 764, 765, 766, 767, 768, 523, 524, 525, 528, 529, 530, 531, 532, 533, 534, 535, 536, 321, 322, 21, 323, 56, 288, 289, 290, 537, 538, 539, 540, 541, 542, 769, 544, 545, 546, 547, 548, 549, 550, 551, 552, 553, 554, 555, 556, 557, 558, 559, 560, 561, 562, 563, 564, 565, 566, 567, 568, 569, 570, 571, 572, 573, 574, 575, 576, 577, 578, 579, 580, 581, 582, 932, 933, 934, 935, 936, 937, 938, 939, 940, 941, 942, 943, 944, 945, 946, 947, 948, 949, 950, 951, 952, 953, 954, 955, 798, 799, 800, 1098, 1099, 1100, 1101, 1102, 1103, 1104, 1105, 1106, 1107, 1108, 1109, 1188, 1189, 1190, 1191, 1192, 1193, 1194, 1202, 1203, 1204, 1205, 1206, 1207, 1208, 1209, 1210, 1211, 1201, 1174, 1175, 1176, 1177] (by decide +kernel) (by decide +kernel)
set_option maxRecDepth 20000 in
theorem gL_law_X8_race : GoodIn wsL_law (wsV RL 84 RX8 yX8_race wsX8_race) := goodIn_app (goodIn_of _ (by decide +kernel)) ggL_law_X8_race
set_option maxRecDepth 20000 in
theorem ggL_law_X9_race : GoodIn wsL_law wsX9_race := goodIn_r _ [959, 344, 119, 108, 106, 960, 120, 809, 810, 811, 5, 812, 109, 111, 105, 101, 110, 506, 507, 508, 509, 112, 99, 813, 814, 815, 816, 104, 102, 103, 817, 818, 819, 820, 821, 822, 823, 824, 825, 826, 827, 828, 829, 591, 592, 593, 594, 89, 90, 91, 595, 596, 597, 598, 599, 600, 601, 93, 92, 94, 95, 96, 97, 98, 602, 603, 604, 605, 606, 607, 608, 609, 610, 611, 612, 613, 614, 615, 616, 617, 618, 619, 620, 621, 830, 831, 832, 833, 834, 835, 836, 837, 838, 839, 840, 841, 842, 843, 844, 845, 846, 847, 848, 849, 961, 962, 963, 964, 965, 966, 967, 968, 969, 970, 971, 882, 883, 884, 885, 1110, 1111, 1112, 1113, 1114, 1115, 1116, 1117, 1118, 1119, 1120, 1121, 1122, 1123, 1124, 1125, 1126, 1127, 1128, 1129, 1130, 1131, 1132, 1133, 1134, 1135, 1136, 1137, 1138, 1139, 1140, 1141, 1142, 1143, 1144, 1145, 1146, 1147, 1148, 1149, 1150, 1151, 1152, 1153, 1154, 1155, 1156, 1157, 1158, 1159, 1160, 1161] (by decide +kernel) (by decide +kernel)
set_option maxRecDepth 20000 in
theorem gL_law_X9_race : GoodIn wsL_law (wsV RL 87 RX9 yX9_race wsX9_race) := goodIn_app (goodIn_of _ (by decide +kernel)) ggL_law_X9_race
set_option maxRecDepth 20000 in
theorem ggL_law_X8_racer : GoodIn wsL_law wsX8_racer := goodIn_r _ [975, 157, 35, 916, 917, 918, 2, 919, 330, 22, 686, 687, 688, 689, 690, 691, 692, 693, 694, 695, 696, 10, 11, 46, 697, 698, 699, 61, 62, 700, 701, 702, 703, 704, 705, 65, 66, 67, 68, 920, 921, 922, 34, 923, 924, 925, 926, 927, 928, 929, 76, 930, 498, 499, 500, 931, 707, 708, 709, 710, 711, 712, 713, 714, 241, 242, 243, 715, 716, 717, 526, 718, 493, 494, 495, 496, 497, 501, 719, 720, 721, 722, 723, 724, 725, 726, 727, 728, 729, 730, 731, 732, 733, 734, 735, 736, 737, 738, 739, 740, 741, 742, 743, 744, 745, 746, 747, 748, 749, 750, 751, 752, 753, 754, 755, 756, 757, 758, 759, 527, 760, 761, 762, 763, 764, 765, 766, 767, 768, 523, 524, 525, 528, 529, 530, 531, 532, 533, 534, 535, 536, 321, 322, 21, 323, 56, 288, 289, 290, 537, 538, 539, 540, 541, 542, 769, 544, 545, 546, 547, 548, 549, 550, 551, 552, 553, 554, 555, 556, 557, 558, 559, 560, 561, 562, 563, 564, 565, 566, 567, 568, 569, 570, 571, 572, 573, 574, 575, 576, 577, 578, 579, 580, 581, 582, 932, 933, 934, 935, 936, 937, 938, 939, 940, 941, 942, 943, 944, 945, 946, 947, 948, 949, 950, 951, 952, 953, 954, 955, 798, 799, 800, 976, 977, 978, 979, 1098, 1099, 1100, 1101, 1102, 1103, 1104, 1105, 1106, 1107, 1108, 1109, 1188, 1189, 1190, 1191, 1192, 1193, 1194, 1202, 1203, 1204, 1205, 1206, 1207, 1208, 1209, 1210, 1211, 1201, 1174, 1175, 1176, 1177] (by decide +kernel) (by decide +kernel)
set_option maxRecDepth 20000 in
theorem gL_law_X8_racer : GoodIn wsL_law (wsV RL 88 RX8 yX8_racer wsX8_racer) := goodIn_app (goodIn_of _ (by decide +kernel)) ggL_law_X8_racer
set_option maxRecDepth 20000 in
theorem ggL_law_X9_racer : GoodIn wsL_law wsX9_racer := goodIn_r _ [983, 344, 965, 966, 967, 960, 120, 984, 957, 958, 5, 959, 119, 108, 106, 809, 810, 811, 812, 109, 111, 105, 101, 110, 506, 507, 508, 509, 112, 99, 813, 814, 815, 816, 104, 102, 103, 817, 818, 819, 820, 821, 822, 823, 824, 825, 826, 827, 828, 829, 591, 592, 593, 594, 89, 90, 91, 595, 596, 597, 598, 599, 600, 601, 93, 92, 94, 95, 96, 97, 98, 602, 603, 604, 605, 606, 607, 608, 609, 610, 611, 612, 613, 614, 615, 616, 617, 618, 619, 620, 621, 830, 831, 832, 833, 834, 835, 836, 837, 838, 839, 840, 841, 842, 843, 844, 845, 846, 847, 848, 849, 961, 962, 963, 964, 968, 969, 970, 971, 882, 883, 884, 885, 1110, 1111, 1112, 1113, 1114, 1115, 1116, 1117, 1118, 1119, 1120, 1121, 1122, 1123, 1124, 1125, 1126, 1127, 1128, 1129, 1130, 1131, 1132, 1133, 1134, 1135, 1136, 1137, 1138, 1139, 1140, 1141, 1142, 1143, 1144, 1145, 1146, 1147, 1148, 1149, 1150, 1151, 1152, 1153, 1154, 1155, 1156, 1157, 1158, 1159, 1160, 1161] (by decide +kernel) (by decide +kernel)
set_option maxRecDepth 20000 in
theorem gL_law_X9_racer : GoodIn wsL_law (wsV RL 91 RX9 yX9_racer wsX9_racer) := goodIn_app (goodIn_of _ (by decide +kernel)) ggL_law_X9_racer
set_option maxRecDepth 20000 in
theorem ggL_law_X8_cure : GoodIn wsL_law wsX8_cure := goodIn_r _ [988, 157, 39, 22, 682, 683, 684, 2, 685, 30, 31, 329, 686, 687, 688, 689, 690, 691, 692, 693, 694, 695, 696, 10, 11, 46, 697, 698, 699, 61, 62, 700, 701, 702, 703, 704, 705, 65, 66, 67, 68, 706, 707, 708, 709, 710, 711, 712, 713, 498, 499, 500, 714, 241, 242, 243, 715, 716, 717, 526, 718, 493, 494, 495, 496, 497, 501, 719, 720, 721, 722, 723, 724, 725, 726, 727, 728, 729, 730, 731, 732, 733, 734, 735, 736, 737, 738, 739, 740, 741, 742, 743, 744, 745, 746, 747, 748, 749, 750, 751, 752, 753, 754, 755, 756, 757, 758, 759, 527, 760, 761, 762, 763, 764, 765, 766, 767, 768, 523, 524, 525, 528, 529, 530, 531, 532, 533, 534, 535, 536, 321, 322, 21, 323, 56, 288, 289, 290, 537, 538, 539, 540, 541, 542, 769, 544, 545, 546, 547, 548, 549, 550, 551, 552, 553, 554, 555, 556, 557, 558, 559, 560, 561, 562, 563, 564, 565, 566, 567, 568, 569, 570, 571, 572, 573, 574, 575, 576, 577, 578, 579, 580, 581, 582, 770, 771, 772, 29, 773, 774, 775, 776, 777, 778, 779, 72, 780, 781, 782, 783, 784, 785, 786, 787, 788, 789, 790, 791, 792, 793, 794, 795, 796, 797, 798, 799, 800, 989, 990, 991, 38, 992, 335, 82, 993, 994, 83, 84, 995, 996, 997, 998, 999, 81, 1000, 1001, 1002, 1003, 239, 54, 1004, 1005, 1006, 1007, 1008, 1009, 1010, 1011, 1012, 1013, 1014, 55, 1015, 1016, 236, 237, 238, 240, 1017, 1018, 1019, 1020, 1021, 285, 286, 287, 1022, 1023, 1024, 1025, 1026, 1027, 1028, 1029, 1030, 1031, 1032, 1033, 1034, 898, 859, 860, 861, 1098, 1099, 1100, 1101, 1102, 1103, 1104, 1105, 1106, 1107, 1108, 1109, 1183, 1184, 1185, 1186, 1187, 1202, 1203, 1204, 1205, 1206, 1207, 1208, 1209, 1210, 1211, 1201, 1174, 1175, 1176, 1177, 1195, 1196, 1197, 1198, 1199, 1200] (by decide +kernel) (by decide +kernel)
set_option maxRecDepth 20000 in
theorem gL_law_X8_cure : GoodIn wsL_law (wsV RL 92 RX8 yX8_cure wsX8_cure) := goodIn_app (goodIn_of _ (by decide +kernel)) ggL_law_X8_cure
set_option maxRecDepth 20000 in
theorem ggL_law_X9_cure : GoodIn wsL_law wsX9_cure := goodIn_r _ [1038, 344, 1039, 123, 121, 122, 805, 806, 807, 5, 808, 109, 108, 809, 810, 811, 812, 106, 111, 105, 101, 110, 506, 507, 508, 509, 112, 99, 813, 814, 815, 816, 104, 102, 103, 817, 818, 819, 820, 821, 822, 823, 824, 825, 826, 827, 828, 829, 591, 592, 593, 594, 89, 90, 91, 595, 596, 597, 598, 599, 600, 601, 93, 92, 94, 95, 96, 97, 98, 602, 603, 604, 605, 606, 607, 608, 609, 610, 611, 612, 613, 614, 615, 616, 617, 618, 619, 620, 621, 830, 831, 832, 833, 834, 835, 836, 837, 838, 839, 840, 841, 842, 843, 844, 845, 846, 847, 848, 849, 1040, 1041, 1042, 1043, 1044, 1045, 1046, 1047, 1048, 1049, 1050, 1051, 124, 1052, 1053, 1054, 451, 452, 453, 454, 1055, 1056, 1057, 1058, 1110, 1111, 1112, 1113, 1114, 1115, 1116, 1117, 1118, 1119, 1120, 1121, 1122, 1123, 1124, 1125, 1126, 1127, 1128, 1129, 1130, 1131, 1132, 1133, 1134, 1135, 1136, 1137, 1138, 1139, 1140, 1141, 1142, 1143, 1144, 1145, 1146, 1147, 1148, 1149, 1150, 1151, 1152, 1153, 1154, 1155, 1156, 1157, 1158, 1159, 1160, 1161] (by decide +kernel) (by decide +kernel)
set_option maxRecDepth 20000 in
theorem gL_law_X9_cure : GoodIn wsL_law (wsV RL 95 RX9 yX9_cure wsX9_cure) := goodIn_app (goodIn_of _ (by decide +kernel)) ggL_law_X9_cure
set_option maxRecDepth 20000 in
theorem ggL_law_X8_cured : GoodIn wsL_law wsX8_cured := goodIn_r _ [1062, 39, 1063, 1064, 1065, 38, 1066, 994, 84, 1098, 1099, 1100, 1101, 1102, 1103, 1104, 1105, 1106, 1107, 1108, 1109, 1195, 1196, 1197, 1198, 1199, 1200] (by decide +kernel) (by decide +kernel)
set_option maxRecDepth 20000 in
theorem gL_law_X8_cured : GoodIn wsL_law (wsV RL 96 RX8 yX8_cured wsX8_cured) := goodIn_app (goodIn_of _ (by decide +kernel)) ggL_law_X8_cured
set_option maxRecDepth 20000 in
theorem ggL_law_X9_cured : GoodIn wsL_law wsX9_cured := goodIn_r _ [1070, 344, 121, 122, 1110, 1111, 1112, 1113, 1114, 1115, 1116, 1117, 1118, 1119, 1120, 1121, 1122, 1123, 1124, 1125, 1126, 1127, 1128, 1129, 1130, 1131, 1132, 1133, 1134, 1135, 1136, 1137, 1138, 1139, 1140, 1141, 1142, 1143, 1144, 1145, 1146, 1147, 1148, 1149, 1150, 1151, 1152, 1153, 1154, 1155, 1156, 1157, 1158, 1159, 1160, 1161] (by decide +kernel) (by decide +kernel)
set_option maxRecDepth 20000 in
theorem gL_law_X9_cured : GoodIn wsL_law (wsV RL 99 RX9 yX9_cured wsX9_cured) := goodIn_app (goodIn_of _ (by decide +kernel)) ggL_law_X9_cured
set_option maxRecDepth 20000 in
theorem ggL_law_X8_count : GoodIn wsL_law wsX8_count := goodIn_r _ [1074, 129, 157, 1075, 1076, 1077, 2, 1078, 22, 472, 26, 328, 1079, 638, 1080, 1081, 1082, 21, 1083, 239, 54, 682, 683, 684, 685, 30, 31, 329, 686, 687, 688, 689, 690, 691, 692, 693, 694, 695, 696, 10, 11, 46, 697, 698, 699, 61, 62, 700, 701, 702, 703, 704, 705, 65, 66, 67, 68, 706, 707, 708, 709, 710, 711, 712, 713, 498, 499, 500, 714, 241, 242, 243, 715, 716, 717, 526, 718, 493, 494, 495, 496, 497, 501, 719, 720, 721, 722, 723, 724, 725, 726, 727, 728, 729, 730, 731, 732, 733, 734, 735, 736, 737, 738, 739, 740, 741, 742, 743, 744, 745, 746, 747, 748, 749, 750, 751, 752, 753, 754, 755, 756, 757, 758, 759, 527, 760, 761, 762, 763, 764, 765, 766, 767, 768, 523, 524, 525, 528, 529, 530, 531, 532, 533, 534, 535, 536, 321, 322, 323, 56, 288, 289, 290, 537, 538, 539, 540, 541, 542, 769, 544, 545, 546, 547, 548, 549, 550, 551, 552, 553, 554, 555, 556, 557, 558, 559, 560, 561, 562, 563, 564, 565, 566, 567, 568, 569, 570, 571, 572, 573, 574, 575, 576, 577, 578, 579, 580, 581, 582, 770, 771, 772, 29, 773, 774, 775, 776, 777, 778, 779, 72, 780, 781, 782, 783, 784, 785, 786, 787, 788, 789, 790, 791, 792, 793, 794, 795, 796, 797, 798, 799, 800, 1084, 1085, 1086, 1087, 1088, 1089, 1090, 1091, 1092, 1093, 1001, 1002, 1003, 1004, 1005, 1006, 1098, 1099, 1100, 1101, 1102, 1103, 1104, 1105, 1106, 1107, 1108, 1109, 1174, 1175, 1176, 1177, 1178, 1179, 1180, 1181, 1182, 1183, 1184, 1185, 1186, 1187, 1202, 1203, 1204, 1205, 1206, 1207, 1208, 1209, 1210, 1211, 1201] (by decide +kernel) (by decide +kernel)
set_option maxRecDepth 20000 in
theorem gL_law_X8_count : GoodIn wsL_law (wsV RL 100 RX8 yX8_count wsX8_count) := goodIn_app (goodIn_of _ (by decide +kernel)) ggL_law_X8_count
set_option maxRecDepth 20000 in
theorem ggL_law_X9_count : GoodIn wsL_law wsX9_count := goodIn_r _ [1097, 138, 344, 89, 90, 106, 111, 115, 345, 113, 1039, 805, 806, 807, 5, 808, 109, 108, 809, 810, 811, 812, 105, 101, 110, 506, 507, 508, 509, 112, 99, 813, 814, 815, 816, 104, 102, 103, 817, 818, 819, 820, 821, 822, 823, 824, 825, 826, 827, 828, 829, 591, 592, 593, 594, 91, 595, 596, 597, 598, 599, 600, 601, 93, 92, 94, 95, 96, 97, 98, 602, 603, 604, 605, 606, 607, 608, 609, 610, 611, 612, 613, 614, 615, 616, 617, 618, 619, 620, 621, 830, 831, 832, 833, 834, 835, 836, 837, 838, 839, 840, 841, 842, 843, 844, 845, 846, 847, 848, 849, 1040, 1041, 1042, 1043, 123, 1110, 1111, 1112, 1113, 1114, 1115, 1116, 1117, 1118, 1119, 1120, 1121, 1122, 1123, 1124, 1125, 1126, 1127, 1128, 1129, 1130, 1131, 1132, 1133, 1134, 1135, 1136, 1137, 1138, 1139, 1140, 1141, 1142, 1143, 1144, 1145, 1146, 1147, 1148, 1149, 1150, 1151, 1152, 1153, 1154, 1155, 1156, 1157, 1158, 1159, 1160, 1161] (by decide +kernel) (by decide +kernel)
set_option maxRecDepth 20000 in
theorem gL_law_X9_count : GoodIn wsL_law (wsV RL 103 RX9 yX9_count wsX9_count) := goodIn_app (goodIn_of _ (by decide +kernel)) ggL_law_X9_count
theorem dL_law_0 : decode cL_law 0 = .ok (.new 7, 3) := by decide +kernel
theorem dL_law_3 : decode cL_law 3 = .ok (.dup, 1) := by decide +kernel
theorem dL_law_4 : decode cL_law 4 = .ok (.invokespecial 9, 3) := by decide +kernel
theorem dL_law_7 : decode cL_law 7 = .ok (.astore_n 1, 1) := by decide +kernel
theorem dL_law_8 : decode cL_law 8 = .ok (.new 10, 3) := by decide +kernel
theorem dL_law_11 : decode cL_law 11 = .ok (.dup, 1) := by decide +kernel
theorem dL_law_12 : decode cL_law 12 = .ok (.invokespecial 12, 3) := by decide +kernel
theorem dL_law_15 : decode cL_law 15 = .ok (.astore_n 2, 1) := by decide +kernel
theorem dL_law_16 : decode cL_law 16 = .ok (.iconst 0, 1) := by decide +kernel
theorem dL_law_17 : decode cL_law 17 = .ok (.istore_n 3, 1) := by decide +kernel
theorem dL_law_18 : decode cL_law 18 = .ok (.iload_n 3, 1) := by decide +kernel
theorem dL_law_19 : decode cL_law 19 = .ok (.aload_n 0, 1) := by decide +kernel
theorem dL_law_20 : decode cL_law 20 = .ok (.arraylength, 1) := by decide +kernel
theorem dL_law_21 : decode cL_law 21 = .ok (.bipush 6, 2) := by decide +kernel
theorem dL_law_23 : decode cL_law 23 = .ok (.isub, 1) := by decide +kernel
theorem dL_law_24 : decode cL_law 24 = .ok (.if_icmp .gt 687, 3) := by decide +kernel
theorem dL_law_27 : decode cL_law 27 = .ok (.aload_n 0, 1) := by decide +kernel
theorem dL_law_28 : decode cL_law 28 = .ok (.iload_n 3, 1) := by decide +kernel
theorem dL_law_29 : decode cL_law 29 = .ok (.iaload, 1) := by decide +kernel
theorem dL_law_30 : decode cL_law 30 = .ok (.bipush 31, 2) := by decide +kernel
theorem dL_law_32 : decode cL_law 32 = .ok (.iand, 1) := by decide +kernel
theorem dL_law_33 : decode cL_law 33 = .ok (.tableswitch 672 0 20 #[99, 162, 185, 198, 211, 254, 277, 300, 313, 346, 369, 392, 435, 458, 501, 544, 567, 580, 603, 626, 649], 99) := by decide +kernel
theorem dL_law_132 : decode cL_law 132 = .ok (.aload_n 1, 1) := by decide +kernel
theorem dL_law_133 : decode cL_law 133 = .ok (.aload_n 0, 1) := by decide +kernel
theorem dL_law_134 : decode cL_law 134 = .ok (.iload_n 3, 1) := by decide +kernel
theorem dL_law_135 : decode cL_law 135 = .ok (.iconst 1, 1) := by decide +kernel
theorem dL_law_136 : decode cL_law 136 = .ok (.iadd, 1) := by decide +kernel
theorem dL_law_137 : decode cL_law 137 = .ok (.iaload, 1) := by decide +kernel
theorem dL_law_138 : decode cL_law 138 = .ok (.aload_n 0, 1) := by decide +kernel
theorem dL_law_139 : decode cL_law 139 = .ok (.iload_n 3, 1) := by decide +kernel
theorem dL_law_140 : decode cL_law 140 = .ok (.iconst 2, 1) := by decide +kernel
theorem dL_law_141 : decode cL_law 141 = .ok (.iadd, 1) := by decide +kernel
theorem dL_law_142 : decode cL_law 142 = .ok (.iaload, 1) := by decide +kernel
theorem dL_law_143 : decode cL_law 143 = .ok (.aload_n 0, 1) := by decide +kernel
theorem dL_law_144 : decode cL_law 144 = .ok (.iload_n 3, 1) := by decide +kernel
theorem dL_law_145 : decode cL_law 145 = .ok (.iconst 3, 1) := by decide +kernel
theorem dL_law_146 : decode cL_law 146 = .ok (.iadd, 1) := by decide +kernel
theorem dL_law_147 : decode cL_law 147 = .ok (.iaload, 1) := by decide +kernel
theorem dL_law_148 : decode cL_law 148 = .ok (.aload_n 0, 1) := by decide +kernel
theorem dL_law_149 : decode cL_law 149 = .ok (.iload_n 3, 1) := by decide +kernel
theorem dL_law_150 : decode cL_law 150 = .ok (.iconst 4, 1) := by decide +kernel
theorem dL_law_151 : decode cL_law 151 = .ok (.iadd, 1) := by decide +kernel
theorem dL_law_152 : decode cL_law 152 = .ok (.iaload, 1) := by decide +kernel
theorem dL_law_153 : decode cL_law 153 = .ok (.aload_n 0, 1) := by decide +kernel
theorem dL_law_154 : decode cL_law 154 = .ok (.iload_n 3, 1) := by decide +kernel
theorem dL_law_155 : decode cL_law 155 = .ok (.iconst 5, 1) := by decide +kernel
theorem dL_law_156 : decode cL_law 156 = .ok (.iadd, 1) := by decide +kernel
theorem dL_law_157 : decode cL_law 157 = .ok (.iaload, 1) := by decide +kernel
theorem dL_law_158 : decode cL_law 158 = .ok (.invokevirtual 13, 3) := by decide +kernel
theorem dL_law_161 : decode cL_law 161 = .ok (.aload_n 2, 1) := by decide +kernel
theorem dL_law_162 : decode cL_law 162 = .ok (.aload_n 0, 1) := by decide +kernel
theorem dL_law_163 : decode cL_law 163 = .ok (.iload_n 3, 1) := by decide +kernel
theorem dL_law_164 : decode cL_law 164 = .ok (.iconst 1, 1) := by decide +kernel
theorem dL_law_165 : decode cL_law 165 = .ok (.iadd, 1) := by decide +kernel
theorem dL_law_166 : decode cL_law 166 = .ok (.iaload, 1) := by decide +kernel
theorem dL_law_167 : decode cL_law 167 = .ok (.aload_n 0, 1) := by decide +kernel
theorem dL_law_168 : decode cL_law 168 = .ok (.iload_n 3, 1) := by decide +kernel
theorem dL_law_169 : decode cL_law 169 = .ok (.iconst 2, 1) := by decide +kernel
theorem dL_law_170 : decode cL_law 170 = .ok (.iadd, 1) := by decide +kernel
theorem dL_law_171 : decode cL_law 171 = .ok (.iaload, 1) := by decide +kernel
theorem dL_law_172 : decode cL_law 172 = .ok (.aload_n 0, 1) := by decide +kernel
theorem dL_law_173 : decode cL_law 173 = .ok (.iload_n 3, 1) := by decide +kernel
theorem dL_law_174 : decode cL_law 174 = .ok (.iconst 3, 1) := by decide +kernel
theorem dL_law_175 : decode cL_law 175 = .ok (.iadd, 1) := by decide +kernel
theorem dL_law_176 : decode cL_law 176 = .ok (.iaload, 1) := by decide +kernel
theorem dL_law_177 : decode cL_law 177 = .ok (.aload_n 0, 1) := by decide +kernel
theorem dL_law_178 : decode cL_law 178 = .ok (.iload_n 3, 1) := by decide +kernel
theorem dL_law_179 : decode cL_law 179 = .ok (.iconst 4, 1) := by decide +kernel
theorem dL_law_180 : decode cL_law 180 = .ok (.iadd, 1) := by decide +kernel
theorem dL_law_181 : decode cL_law 181 = .ok (.iaload, 1) := by decide +kernel
theorem dL_law_182 : decode cL_law 182 = .ok (.aload_n 0, 1) := by decide +kernel
theorem dL_law_183 : decode cL_law 183 = .ok (.iload_n 3, 1) := by decide +kernel
theorem dL_law_184 : decode cL_law 184 = .ok (.iconst 5, 1) := by decide +kernel
theorem dL_law_185 : decode cL_law 185 = .ok (.iadd, 1) := by decide +kernel
theorem dL_law_186 : decode cL_law 186 = .ok (.iaload, 1) := by decide +kernel
theorem dL_law_187 : decode cL_law 187 = .ok (.invokevirtual 17, 3) := by decide +kernel
theorem dL_law_190 : decode cL_law 190 = .ok (.if_icmp .eq 515, 3) := by decide +kernel
theorem dL_law_193 : decode cL_law 193 = .ok (.iconst 0, 1) := by decide +kernel
theorem dL_law_194 : decode cL_law 194 = .ok (.ireturn, 1) := by decide +kernel
theorem dL_law_195 : decode cL_law 195 = .ok (.aload_n 1, 1) := by decide +kernel
theorem dL_law_196 : decode cL_law 196 = .ok (.aload_n 0, 1) := by decide +kernel
theorem dL_law_197 : decode cL_law 197 = .ok (.iload_n 3, 1) := by decide +kernel
theorem dL_law_198 : decode cL_law 198 = .ok (.iconst 1, 1) := by decide +kernel
theorem dL_law_199 : decode cL_law 199 = .ok (.iadd, 1) := by decide +kernel
theorem dL_law_200 : decode cL_law 200 = .ok (.iaload, 1) := by decide +kernel
theorem dL_law_201 : decode cL_law 201 = .ok (.invokevirtual 18, 3) := by decide +kernel
theorem dL_law_204 : decode cL_law 204 = .ok (.aload_n 2, 1) := by decide +kernel
theorem dL_law_205 : decode cL_law 205 = .ok (.aload_n 0, 1) := by decide +kernel
theorem dL_law_206 : decode cL_law 206 = .ok (.iload_n 3, 1) := by decide +kernel
theorem dL_law_207 : decode cL_law 207 = .ok (.iconst 1, 1) := by decide +kernel
theorem dL_law_208 : decode cL_law 208 = .ok (.iadd, 1) := by decide +kernel
theorem dL_law_209 : decode cL_law 209 = .ok (.iaload, 1) := by decide +kernel
theorem dL_law_210 : decode cL_law 210 = .ok (.invokevirtual 22, 3) := by decide +kernel
theorem dL_law_213 : decode cL_law 213 = .ok (.if_icmp .eq 492, 3) := by decide +kernel
theorem dL_law_216 : decode cL_law 216 = .ok (.iconst 0, 1) := by decide +kernel
theorem dL_law_217 : decode cL_law 217 = .ok (.ireturn, 1) := by decide +kernel
theorem dL_law_218 : decode cL_law 218 = .ok (.aload_n 1, 1) := by decide +kernel
theorem dL_law_219 : decode cL_law 219 = .ok (.invokevirtual 23, 3) := by decide +kernel
theorem dL_law_222 : decode cL_law 222 = .ok (.aload_n 2, 1) := by decide +kernel
theorem dL_law_223 : decode cL_law 223 = .ok (.invokevirtual 27, 3) := by decide +kernel
theorem dL_law_226 : decode cL_law 226 = .ok (.if_icmp .eq 479, 3) := by decide +kernel
theorem dL_law_229 : decode cL_law 229 = .ok (.iconst 0, 1) := by decide +kernel
theorem dL_law_230 : decode cL_law 230 = .ok (.ireturn, 1) := by decide +kernel
theorem dL_law_231 : decode cL_law 231 = .ok (.aload_n 1, 1) := by decide +kernel
theorem dL_law_232 : decode cL_law 232 = .ok (.invokevirtual 28, 3) := by decide +kernel
theorem dL_law_235 : decode cL_law 235 = .ok (.aload_n 2, 1) := by decide +kernel
theorem dL_law_236 : decode cL_law 236 = .ok (.invokevirtual 31, 3) := by decide +kernel
theorem dL_law_239 : decode cL_law 239 = .ok (.if_icmp .eq 466, 3) := by decide +kernel
theorem dL_law_242 : decode cL_law 242 = .ok (.iconst 0, 1) := by decide +kernel
theorem dL_law_243 : decode cL_law 243 = .ok (.ireturn, 1) := by decide +kernel
theorem dL_law_244 : decode cL_law 244 = .ok (.aload_n 1, 1) := by decide +kernel
theorem dL_law_245 : decode cL_law 245 = .ok (.aload_n 0, 1) := by decide +kernel
theorem dL_law_246 : decode cL_law 246 = .ok (.iload_n 3, 1) := by decide +kernel
theorem dL_law_247 : decode cL_law 247 = .ok (.iconst 1, 1) := by decide +kernel
theorem dL_law_248 : decode cL_law 248 = .ok (.iadd, 1) := by decide +kernel
theorem dL_law_249 : decode cL_law 249 = .ok (.iaload, 1) := by decide +kernel
theorem dL_law_250 : decode cL_law 250 = .ok (.aload_n 0, 1) := by decide +kernel
theorem dL_law_251 : decode cL_law 251 = .ok (.iload_n 3, 1) := by decide +kernel
theorem dL_law_252 : decode cL_law 252 = .ok (.iconst 2, 1) := by decide +kernel
theorem dL_law_253 : decode cL_law 253 = .ok (.iadd, 1) := by decide +kernel
theorem dL_law_254 : decode cL_law 254 = .ok (.iaload, 1) := by decide +kernel
theorem dL_law_255 : decode cL_law 255 = .ok (.aload_n 0, 1) := by decide +kernel
theorem dL_law_256 : decode cL_law 256 = .ok (.iload_n 3, 1) := by decide +kernel
theorem dL_law_257 : decode cL_law 257 = .ok (.iconst 3, 1) := by decide +kernel
theorem dL_law_258 : decode cL_law 258 = .ok (.iadd, 1) := by decide +kernel
theorem dL_law_259 : decode cL_law 259 = .ok (.iaload, 1) := by decide +kernel
theorem dL_law_260 : decode cL_law 260 = .ok (.invokevirtual 32, 3) := by decide +kernel
theorem dL_law_263 : decode cL_law 263 = .ok (.aload_n 2, 1) := by decide +kernel
theorem dL_law_264 : decode cL_law 264 = .ok (.aload_n 0, 1) := by decide +kernel
theorem dL_law_265 : decode cL_law 265 = .ok (.iload_n 3, 1) := by decide +kernel
theorem dL_law_266 : decode cL_law 266 = .ok (.iconst 1, 1) := by decide +kernel
theorem dL_law_267 : decode cL_law 267 = .ok (.iadd, 1) := by decide +kernel
theorem dL_law_268 : decode cL_law 268 = .ok (.iaload, 1) := by decide +kernel
theorem dL_law_269 : decode cL_law 269 = .ok (.aload_n 0, 1) := by decide +kernel
theorem dL_law_270 : decode cL_law 270 = .ok (.iload_n 3, 1) := by decide +kernel
theorem dL_law_271 : decode cL_law 271 = .ok (.iconst 2, 1) := by decide +kernel
theorem dL_law_272 : decode cL_law 272 = .ok (.iadd, 1) := by decide +kernel
theorem dL_law_273 : decode cL_law 273 = .ok (.iaload, 1) := by decide +kernel
theorem dL_law_274 : decode cL_law 274 = .ok (.aload_n 0, 1) := by decide +kernel
theorem dL_law_275 : decode cL_law 275 = .ok (.iload_n 3, 1) := by decide +kernel
theorem dL_law_276 : decode cL_law 276 = .ok (.iconst 3, 1) := by decide +kernel
theorem dL_law_277 : decode cL_law 277 = .ok (.iadd, 1) := by decide +kernel
theorem dL_law_278 : decode cL_law 278 = .ok (.iaload, 1) := by decide +kernel
theorem dL_law_279 : decode cL_law 279 = .ok (.invokevirtual 36, 3) := by decide +kernel
theorem dL_law_282 : decode cL_law 282 = .ok (.if_icmp .eq 423, 3) := by decide +kernel
theorem dL_law_285 : decode cL_law 285 = .ok (.iconst 0, 1) := by decide +kernel
theorem dL_law_286 : decode cL_law 286 = .ok (.ireturn, 1) := by decide +kernel
theorem dL_law_287 : decode cL_law 287 = .ok (.aload_n 1, 1) := by decide +kernel
theorem dL_law_288 : decode cL_law 288 = .ok (.aload_n 0, 1) := by decide +kernel
theorem dL_law_289 : decode cL_law 289 = .ok (.iload_n 3, 1) := by decide +kernel
theorem dL_law_290 : decode cL_law 290 = .ok (.iconst 1, 1) := by decide +kernel
theorem dL_law_291 : decode cL_law 291 = .ok (.iadd, 1) := by decide +kernel
theorem dL_law_292 : decode cL_law 292 = .ok (.iaload, 1) := by decide +kernel
theorem dL_law_293 : decode cL_law 293 = .ok (.invokevirtual 37, 3) := by decide +kernel
theorem dL_law_296 : decode cL_law 296 = .ok (.aload_n 2, 1) := by decide +kernel
theorem dL_law_297 : decode cL_law 297 = .ok (.aload_n 0, 1) := by decide +kernel
theorem dL_law_298 : decode cL_law 298 = .ok (.iload_n 3, 1) := by decide +kernel
theorem dL_law_299 : decode cL_law 299 = .ok (.iconst 1, 1) := by decide +kernel
theorem dL_law_300 : decode cL_law 300 = .ok (.iadd, 1) := by decide +kernel
theorem dL_law_301 : decode cL_law 301 = .ok (.iaload, 1) := by decide +kernel
theorem dL_law_302 : decode cL_law 302 = .ok (.invokevirtual 41, 3) := by decide +kernel
theorem dL_law_305 : decode cL_law 305 = .ok (.if_icmp .eq 400, 3) := by decide +kernel
theorem dL_law_308 : decode cL_law 308 = .ok (.iconst 0, 1) := by decide +kernel
theorem dL_law_309 : decode cL_law 309 = .ok (.ireturn, 1) := by decide +kernel
theorem dL_law_310 : decode cL_law 310 = .ok (.aload_n 1, 1) := by decide +kernel
theorem dL_law_311 : decode cL_law 311 = .ok (.aload_n 0, 1) := by decide +kernel
theorem dL_law_312 : decode cL_law 312 = .ok (.iload_n 3, 1) := by decide +kernel
theorem dL_law_313 : decode cL_law 313 = .ok (.iconst 1, 1) := by decide +kernel
theorem dL_law_314 : decode cL_law 314 = .ok (.iadd, 1) := by decide +kernel
theorem dL_law_315 : decode cL_law 315 = .ok (.iaload, 1) := by decide +kernel
theorem dL_law_316 : decode cL_law 316 = .ok (.invokevirtual 42, 3) := by decide +kernel
theorem dL_law_319 : decode cL_law 319 = .ok (.aload_n 2, 1) := by decide +kernel
theorem dL_law_320 : decode cL_law 320 = .ok (.aload_n 0, 1) := by decide +kernel
theorem dL_law_321 : decode cL_law 321 = .ok (.iload_n 3, 1) := by decide +kernel
theorem dL_law_322 : decode cL_law 322 = .ok (.iconst 1, 1) := by decide +kernel
theorem dL_law_323 : decode cL_law 323 = .ok (.iadd, 1) := by decide +kernel
theorem dL_law_324 : decode cL_law 324 = .ok (.iaload, 1) := by decide +kernel
theorem dL_law_325 : decode cL_law 325 = .ok (.invokevirtual 45, 3) := by decide +kernel
theorem dL_law_328 : decode cL_law 328 = .ok (.if_icmp .eq 377, 3) := by decide +kernel
theorem dL_law_331 : decode cL_law 331 = .ok (.iconst 0, 1) := by decide +kernel
theorem dL_law_332 : decode cL_law 332 = .ok (.ireturn, 1) := by decide +kernel
theorem dL_law_333 : decode cL_law 333 = .ok (.aload_n 1, 1) := by decide +kernel
theorem dL_law_334 : decode cL_law 334 = .ok (.invokevirtual 46, 3) := by decide +kernel
theorem dL_law_337 : decode cL_law 337 = .ok (.aload_n 2, 1) := by decide +kernel
theorem dL_law_338 : decode cL_law 338 = .ok (.invokevirtual 50, 3) := by decide +kernel
theorem dL_law_341 : decode cL_law 341 = .ok (.if_icmp .eq 364, 3) := by decide +kernel
theorem dL_law_344 : decode cL_law 344 = .ok (.iconst 0, 1) := by decide +kernel
theorem dL_law_345 : decode cL_law 345 = .ok (.ireturn, 1) := by decide +kernel
theorem dL_law_346 : decode cL_law 346 = .ok (.aload_n 1, 1) := by decide +kernel
theorem dL_law_347 : decode cL_law 347 = .ok (.aload_n 0, 1) := by decide +kernel
theorem dL_law_348 : decode cL_law 348 = .ok (.iload_n 3, 1) := by decide +kernel
theorem dL_law_349 : decode cL_law 349 = .ok (.iconst 1, 1) := by decide +kernel
theorem dL_law_350 : decode cL_law 350 = .ok (.iadd, 1) := by decide +kernel
theorem dL_law_351 : decode cL_law 351 = .ok (.iaload, 1) := by decide +kernel
theorem dL_law_352 : decode cL_law 352 = .ok (.aload_n 0, 1) := by decide +kernel
theorem dL_law_353 : decode cL_law 353 = .ok (.iload_n 3, 1) := by decide +kernel
theorem dL_law_354 : decode cL_law 354 = .ok (.iconst 2, 1) := by decide +kernel
theorem dL_law_355 : decode cL_law 355 = .ok (.iadd, 1) := by decide +kernel
theorem dL_law_356 : decode cL_law 356 = .ok (.iaload, 1) := by decide +kernel
theorem dL_law_357 : decode cL_law 357 = .ok (.invokevirtual 51, 3) := by decide +kernel
theorem dL_law_360 : decode cL_law 360 = .ok (.aload_n 2, 1) := by decide +kernel
theorem dL_law_361 : decode cL_law 361 = .ok (.aload_n 0, 1) := by decide +kernel
theorem dL_law_362 : decode cL_law 362 = .ok (.iload_n 3, 1) := by decide +kernel
theorem dL_law_363 : decode cL_law 363 = .ok (.iconst 1, 1) := by decide +kernel
theorem dL_law_364 : decode cL_law 364 = .ok (.iadd, 1) := by decide +kernel
theorem dL_law_365 : decode cL_law 365 = .ok (.iaload, 1) := by decide +kernel
theorem dL_law_366 : decode cL_law 366 = .ok (.aload_n 0, 1) := by decide +kernel
theorem dL_law_367 : decode cL_law 367 = .ok (.iload_n 3, 1) := by decide +kernel
theorem dL_law_368 : decode cL_law 368 = .ok (.iconst 2, 1) := by decide +kernel
theorem dL_law_369 : decode cL_law 369 = .ok (.iadd, 1) := by decide +kernel
theorem dL_law_370 : decode cL_law 370 = .ok (.iaload, 1) := by decide +kernel
theorem dL_law_371 : decode cL_law 371 = .ok (.invokevirtual 55, 3) := by decide +kernel
theorem dL_law_374 : decode cL_law 374 = .ok (.if_icmp .eq 331, 3) := by decide +kernel
theorem dL_law_377 : decode cL_law 377 = .ok (.iconst 0, 1) := by decide +kernel
theorem dL_law_378 : decode cL_law 378 = .ok (.ireturn, 1) := by decide +kernel
theorem dL_law_379 : decode cL_law 379 = .ok (.aload_n 1, 1) := by decide +kernel
theorem dL_law_380 : decode cL_law 380 = .ok (.aload_n 0, 1) := by decide +kernel
theorem dL_law_381 : decode cL_law 381 = .ok (.iload_n 3, 1) := by decide +kernel
theorem dL_law_382 : decode cL_law 382 = .ok (.iconst 1, 1) := by decide +kernel
theorem dL_law_383 : decode cL_law 383 = .ok (.iadd, 1) := by decide +kernel
theorem dL_law_384 : decode cL_law 384 = .ok (.iaload, 1) := by decide +kernel
theorem dL_law_385 : decode cL_law 385 = .ok (.invokevirtual 56, 3) := by decide +kernel
theorem dL_law_388 : decode cL_law 388 = .ok (.aload_n 2, 1) := by decide +kernel
theorem dL_law_389 : decode cL_law 389 = .ok (.aload_n 0, 1) := by decide +kernel
theorem dL_law_390 : decode cL_law 390 = .ok (.iload_n 3, 1) := by decide +kernel
theorem dL_law_391 : decode cL_law 391 = .ok (.iconst 1, 1) := by decide +kernel
theorem dL_law_392 : decode cL_law 392 = .ok (.iadd, 1) := by decide +kernel
theorem dL_law_393 : decode cL_law 393 = .ok (.iaload, 1) := by decide +kernel
theorem dL_law_394 : decode cL_law 394 = .ok (.invokevirtual 59, 3) := by decide +kernel
theorem dL_law_397 : decode cL_law 397 = .ok (.if_icmp .eq 308, 3) := by decide +kernel
theorem dL_law_400 : decode cL_law 400 = .ok (.iconst 0, 1) := by decide +kernel
theorem dL_law_401 : decode cL_law 401 = .ok (.ireturn, 1) := by decide +kernel
theorem dL_law_402 : decode cL_law 402 = .ok (.aload_n 1, 1) := by decide +kernel
theorem dL_law_403 : decode cL_law 403 = .ok (.aload_n 0, 1) := by decide +kernel
theorem dL_law_404 : decode cL_law 404 = .ok (.iload_n 3, 1) := by decide +kernel
theorem dL_law_405 : decode cL_law 405 = .ok (.iconst 1, 1) := by decide +kernel
theorem dL_law_406 : decode cL_law 406 = .ok (.iadd, 1) := by decide +kernel
theorem dL_law_407 : decode cL_law 407 = .ok (.iaload, 1) := by decide +kernel
theorem dL_law_408 : decode cL_law 408 = .ok (.invokevirtual 60, 3) := by decide +kernel
theorem dL_law_411 : decode cL_law 411 = .ok (.aload_n 2, 1) := by decide +kernel
theorem dL_law_412 : decode cL_law 412 = .ok (.aload_n 0, 1) := by decide +kernel
theorem dL_law_413 : decode cL_law 413 = .ok (.iload_n 3, 1) := by decide +kernel
theorem dL_law_414 : decode cL_law 414 = .ok (.iconst 1, 1) := by decide +kernel
theorem dL_law_415 : decode cL_law 415 = .ok (.iadd, 1) := by decide +kernel
theorem dL_law_416 : decode cL_law 416 = .ok (.iaload, 1) := by decide +kernel
theorem dL_law_417 : decode cL_law 417 = .ok (.invokevirtual 63, 3) := by decide +kernel
theorem dL_law_420 : decode cL_law 420 = .ok (.if_icmp .eq 285, 3) := by decide +kernel
theorem dL_law_423 : decode cL_law 423 = .ok (.iconst 0, 1) := by decide +kernel
theorem dL_law_424 : decode cL_law 424 = .ok (.ireturn, 1) := by decide +kernel
theorem dL_law_425 : decode cL_law 425 = .ok (.aload_n 1, 1) := by decide +kernel
theorem dL_law_426 : decode cL_law 426 = .ok (.aload_n 0, 1) := by decide +kernel
theorem dL_law_427 : decode cL_law 427 = .ok (.iload_n 3, 1) := by decide +kernel
theorem dL_law_428 : decode cL_law 428 = .ok (.iconst 1, 1) := by decide +kernel
theorem dL_law_429 : decode cL_law 429 = .ok (.iadd, 1) := by decide +kernel
theorem dL_law_430 : decode cL_law 430 = .ok (.iaload, 1) := by decide +kernel
theorem dL_law_431 : decode cL_law 431 = .ok (.aload_n 0, 1) := by decide +kernel
theorem dL_law_432 : decode cL_law 432 = .ok (.iload_n 3, 1) := by decide +kernel
theorem dL_law_433 : decode cL_law 433 = .ok (.iconst 2, 1) := by decide +kernel
theorem dL_law_434 : decode cL_law 434 = .ok (.iadd, 1) := by decide +kernel
theorem dL_law_435 : decode cL_law 435 = .ok (.iaload, 1) := by decide +kernel
theorem dL_law_436 : decode cL_law 436 = .ok (.aload_n 0, 1) := by decide +kernel
theorem dL_law_437 : decode cL_law 437 = .ok (.iload_n 3, 1) := by decide +kernel
theorem dL_law_438 : decode cL_law 438 = .ok (.iconst 3, 1) := by decide +kernel
theorem dL_law_439 : decode cL_law 439 = .ok (.iadd, 1) := by decide +kernel
theorem dL_law_440 : decode cL_law 440 = .ok (.iaload, 1) := by decide +kernel
theorem dL_law_441 : decode cL_law 441 = .ok (.invokevirtual 64, 3) := by decide +kernel
theorem dL_law_444 : decode cL_law 444 = .ok (.aload_n 2, 1) := by decide +kernel
theorem dL_law_445 : decode cL_law 445 = .ok (.aload_n 0, 1) := by decide +kernel
theorem dL_law_446 : decode cL_law 446 = .ok (.iload_n 3, 1) := by decide +kernel
theorem dL_law_447 : decode cL_law 447 = .ok (.iconst 1, 1) := by decide +kernel
theorem dL_law_448 : decode cL_law 448 = .ok (.iadd, 1) := by decide +kernel
theorem dL_law_449 : decode cL_law 449 = .ok (.iaload, 1) := by decide +kernel
theorem dL_law_450 : decode cL_law 450 = .ok (.aload_n 0, 1) := by decide +kernel
theorem dL_law_451 : decode cL_law 451 = .ok (.iload_n 3, 1) := by decide +kernel
theorem dL_law_452 : decode cL_law 452 = .ok (.iconst 2, 1) := by decide +kernel
theorem dL_law_453 : decode cL_law 453 = .ok (.iadd, 1) := by decide +kernel
theorem dL_law_454 : decode cL_law 454 = .ok (.iaload, 1) := by decide +kernel
theorem dL_law_455 : decode cL_law 455 = .ok (.aload_n 0, 1) := by decide +kernel
theorem dL_law_456 : decode cL_law 456 = .ok (.iload_n 3, 1) := by decide +kernel
theorem dL_law_457 : decode cL_law 457 = .ok (.iconst 3, 1) := by decide +kernel
theorem dL_law_458 : decode cL_law 458 = .ok (.iadd, 1) := by decide +kernel
theorem dL_law_459 : decode cL_law 459 = .ok (.iaload, 1) := by decide +kernel
theorem dL_law_460 : decode cL_law 460 = .ok (.invokevirtual 67, 3) := by decide +kernel
theorem dL_law_463 : decode cL_law 463 = .ok (.if_icmp .eq 242, 3) := by decide +kernel
theorem dL_law_466 : decode cL_law 466 = .ok (.iconst 0, 1) := by decide +kernel
theorem dL_law_467 : decode cL_law 467 = .ok (.ireturn, 1) := by decide +kernel
theorem dL_law_468 : decode cL_law 468 = .ok (.aload_n 1, 1) := by decide +kernel
theorem dL_law_469 : decode cL_law 469 = .ok (.aload_n 0, 1) := by decide +kernel
theorem dL_law_470 : decode cL_law 470 = .ok (.iload_n 3, 1) := by decide +kernel
theorem dL_law_471 : decode cL_law 471 = .ok (.iconst 1, 1) := by decide +kernel
theorem dL_law_472 : decode cL_law 472 = .ok (.iadd, 1) := by decide +kernel
theorem dL_law_473 : decode cL_law 473 = .ok (.iaload, 1) := by decide +kernel
theorem dL_law_474 : decode cL_law 474 = .ok (.invokevirtual 68, 3) := by decide +kernel
theorem dL_law_477 : decode cL_law 477 = .ok (.aload_n 2, 1) := by decide +kernel
theorem dL_law_478 : decode cL_law 478 = .ok (.aload_n 0, 1) := by decide +kernel
theorem dL_law_479 : decode cL_law 479 = .ok (.iload_n 3, 1) := by decide +kernel
theorem dL_law_480 : decode cL_law 480 = .ok (.iconst 1, 1) := by decide +kernel
theorem dL_law_481 : decode cL_law 481 = .ok (.iadd, 1) := by decide +kernel
theorem dL_law_482 : decode cL_law 482 = .ok (.iaload, 1) := by decide +kernel
theorem dL_law_483 : decode cL_law 483 = .ok (.invokevirtual 71, 3) := by decide +kernel
theorem dL_law_486 : decode cL_law 486 = .ok (.if_icmp .eq 219, 3) := by decide +kernel
theorem dL_law_489 : decode cL_law 489 = .ok (.iconst 0, 1) := by decide +kernel
theorem dL_law_490 : decode cL_law 490 = .ok (.ireturn, 1) := by decide +kernel
theorem dL_law_491 : decode cL_law 491 = .ok (.aload_n 1, 1) := by decide +kernel
theorem dL_law_492 : decode cL_law 492 = .ok (.aload_n 0, 1) := by decide +kernel
theorem dL_law_493 : decode cL_law 493 = .ok (.iload_n 3, 1) := by decide +kernel
theorem dL_law_494 : decode cL_law 494 = .ok (.iconst 1, 1) := by decide +kernel
theorem dL_law_495 : decode cL_law 495 = .ok (.iadd, 1) := by decide +kernel
theorem dL_law_496 : decode cL_law 496 = .ok (.iaload, 1) := by decide +kernel
theorem dL_law_497 : decode cL_law 497 = .ok (.aload_n 0, 1) := by decide +kernel
theorem dL_law_498 : decode cL_law 498 = .ok (.iload_n 3, 1) := by decide +kernel
theorem dL_law_499 : decode cL_law 499 = .ok (.iconst 2, 1) := by decide +kernel
theorem dL_law_500 : decode cL_law 500 = .ok (.iadd, 1) := by decide +kernel
theorem dL_law_501 : decode cL_law 501 = .ok (.iaload, 1) := by decide +kernel
theorem dL_law_502 : decode cL_law 502 = .ok (.aload_n 0, 1) := by decide +kernel
theorem dL_law_503 : decode cL_law 503 = .ok (.iload_n 3, 1) := by decide +kernel
theorem dL_law_504 : decode cL_law 504 = .ok (.iconst 3, 1) := by decide +kernel
theorem dL_law_505 : decode cL_law 505 = .ok (.iadd, 1) := by decide +kernel
theorem dL_law_506 : decode cL_law 506 = .ok (.iaload, 1) := by decide +kernel
theorem dL_law_507 : decode cL_law 507 = .ok (.invokevirtual 72, 3) := by decide +kernel
theorem dL_law_510 : decode cL_law 510 = .ok (.aload_n 2, 1) := by decide +kernel
theorem dL_law_511 : decode cL_law 511 = .ok (.aload_n 0, 1) := by decide +kernel
theorem dL_law_512 : decode cL_law 512 = .ok (.iload_n 3, 1) := by decide +kernel
theorem dL_law_513 : decode cL_law 513 = .ok (.iconst 1, 1) := by decide +kernel
theorem dL_law_514 : decode cL_law 514 = .ok (.iadd, 1) := by decide +kernel
theorem dL_law_515 : decode cL_law 515 = .ok (.iaload, 1) := by decide +kernel
theorem dL_law_516 : decode cL_law 516 = .ok (.aload_n 0, 1) := by decide +kernel
theorem dL_law_517 : decode cL_law 517 = .ok (.iload_n 3, 1) := by decide +kernel
theorem dL_law_518 : decode cL_law 518 = .ok (.iconst 2, 1) := by decide +kernel
theorem dL_law_519 : decode cL_law 519 = .ok (.iadd, 1) := by decide +kernel
theorem dL_law_520 : decode cL_law 520 = .ok (.iaload, 1) := by decide +kernel
theorem dL_law_521 : decode cL_law 521 = .ok (.aload_n 0, 1) := by decide +kernel
theorem dL_law_522 : decode cL_law 522 = .ok (.iload_n 3, 1) := by decide +kernel
theorem dL_law_523 : decode cL_law 523 = .ok (.iconst 3, 1) := by decide +kernel
theorem dL_law_524 : decode cL_law 524 = .ok (.iadd, 1) := by decide +kernel
theorem dL_law_525 : decode cL_law 525 = .ok (.iaload, 1) := by decide +kernel
theorem dL_law_526 : decode cL_law 526 = .ok (.invokevirtual 75, 3) := by decide +kernel
theorem dL_law_529 : decode cL_law 529 = .ok (.if_icmp .eq 176, 3) := by decide +kernel
theorem dL_law_532 : decode cL_law 532 = .ok (.iconst 0, 1) := by decide +kernel
theorem dL_law_533 : decode cL_law 533 = .ok (.ireturn, 1) := by decide +kernel
theorem dL_law_534 : decode cL_law 534 = .ok (.aload_n 1, 1) := by decide +kernel
theorem dL_law_535 : decode cL_law 535 = .ok (.aload_n 0, 1) := by decide +kernel
theorem dL_law_536 : decode cL_law 536 = .ok (.iload_n 3, 1) := by decide +kernel
theorem dL_law_537 : decode cL_law 537 = .ok (.iconst 1, 1) := by decide +kernel
theorem dL_law_538 : decode cL_law 538 = .ok (.iadd, 1) := by decide +kernel
theorem dL_law_539 : decode cL_law 539 = .ok (.iaload, 1) := by decide +kernel
theorem dL_law_540 : decode cL_law 540 = .ok (.aload_n 0, 1) := by decide +kernel
theorem dL_law_541 : decode cL_law 541 = .ok (.iload_n 3, 1) := by decide +kernel
theorem dL_law_542 : decode cL_law 542 = .ok (.iconst 2, 1) := by decide +kernel
theorem dL_law_543 : decode cL_law 543 = .ok (.iadd, 1) := by decide +kernel
theorem dL_law_544 : decode cL_law 544 = .ok (.iaload, 1) := by decide +kernel
theorem dL_law_545 : decode cL_law 545 = .ok (.aload_n 0, 1) := by decide +kernel
theorem dL_law_546 : decode cL_law 546 = .ok (.iload_n 3, 1) := by decide +kernel
theorem dL_law_547 : decode cL_law 547 = .ok (.iconst 3, 1) := by decide +kernel
theorem dL_law_548 : decode cL_law 548 = .ok (.iadd, 1) := by decide +kernel
theorem dL_law_549 : decode cL_law 549 = .ok (.iaload, 1) := by decide +kernel
theorem dL_law_550 : decode cL_law 550 = .ok (.invokevirtual 76, 3) := by decide +kernel
theorem dL_law_553 : decode cL_law 553 = .ok (.aload_n 2, 1) := by decide +kernel
theorem dL_law_554 : decode cL_law 554 = .ok (.aload_n 0, 1) := by decide +kernel
theorem dL_law_555 : decode cL_law 555 = .ok (.iload_n 3, 1) := by decide +kernel
theorem dL_law_556 : decode cL_law 556 = .ok (.iconst 1, 1) := by decide +kernel
theorem dL_law_557 : decode cL_law 557 = .ok (.iadd, 1) := by decide +kernel
theorem dL_law_558 : decode cL_law 558 = .ok (.iaload, 1) := by decide +kernel
theorem dL_law_559 : decode cL_law 559 = .ok (.aload_n 0, 1) := by decide +kernel
theorem dL_law_560 : decode cL_law 560 = .ok (.iload_n 3, 1) := by decide +kernel
theorem dL_law_561 : decode cL_law 561 = .ok (.iconst 2, 1) := by decide +kernel
theorem dL_law_562 : decode cL_law 562 = .ok (.iadd, 1) := by decide +kernel
theorem dL_law_563 : decode cL_law 563 = .ok (.iaload, 1) := by decide +kernel
theorem dL_law_564 : decode cL_law 564 = .ok (.aload_n 0, 1) := by decide +kernel
theorem dL_law_565 : decode cL_law 565 = .ok (.iload_n 3, 1) := by decide +kernel
theorem dL_law_566 : decode cL_law 566 = .ok (.iconst 3, 1) := by decide +kernel
theorem dL_law_567 : decode cL_law 567 = .ok (.iadd, 1) := by decide +kernel
theorem dL_law_568 : decode cL_law 568 = .ok (.iaload, 1) := by decide +kernel
theorem dL_law_569 : decode cL_law 569 = .ok (.invokevirtual 79, 3) := by decide +kernel
theorem dL_law_572 : decode cL_law 572 = .ok (.if_icmp .eq 133, 3) := by decide +kernel
theorem dL_law_575 : decode cL_law 575 = .ok (.iconst 0, 1) := by decide +kernel
theorem dL_law_576 : decode cL_law 576 = .ok (.ireturn, 1) := by decide +kernel
theorem dL_law_577 : decode cL_law 577 = .ok (.aload_n 1, 1) := by decide +kernel
theorem dL_law_578 : decode cL_law 578 = .ok (.aload_n 0, 1) := by decide +kernel
theorem dL_law_579 : decode cL_law 579 = .ok (.iload_n 3, 1) := by decide +kernel
theorem dL_law_580 : decode cL_law 580 = .ok (.iconst 1, 1) := by decide +kernel
theorem dL_law_581 : decode cL_law 581 = .ok (.iadd, 1) := by decide +kernel
theorem dL_law_582 : decode cL_law 582 = .ok (.iaload, 1) := by decide +kernel
theorem dL_law_583 : decode cL_law 583 = .ok (.invokevirtual 80, 3) := by decide +kernel
theorem dL_law_586 : decode cL_law 586 = .ok (.aload_n 2, 1) := by decide +kernel
theorem dL_law_587 : decode cL_law 587 = .ok (.aload_n 0, 1) := by decide +kernel
theorem dL_law_588 : decode cL_law 588 = .ok (.iload_n 3, 1) := by decide +kernel
theorem dL_law_589 : decode cL_law 589 = .ok (.iconst 1, 1) := by decide +kernel
theorem dL_law_590 : decode cL_law 590 = .ok (.iadd, 1) := by decide +kernel
theorem dL_law_591 : decode cL_law 591 = .ok (.iaload, 1) := by decide +kernel
theorem dL_law_592 : decode cL_law 592 = .ok (.invokevirtual 83, 3) := by decide +kernel
theorem dL_law_595 : decode cL_law 595 = .ok (.if_icmp .eq 110, 3) := by decide +kernel
theorem dL_law_598 : decode cL_law 598 = .ok (.iconst 0, 1) := by decide +kernel
theorem dL_law_599 : decode cL_law 599 = .ok (.ireturn, 1) := by decide +kernel
theorem dL_law_600 : decode cL_law 600 = .ok (.aload_n 1, 1) := by decide +kernel
theorem dL_law_601 : decode cL_law 601 = .ok (.invokevirtual 84, 3) := by decide +kernel
theorem dL_law_604 : decode cL_law 604 = .ok (.aload_n 2, 1) := by decide +kernel
theorem dL_law_605 : decode cL_law 605 = .ok (.invokevirtual 87, 3) := by decide +kernel
theorem dL_law_608 : decode cL_law 608 = .ok (.if_icmp .eq 97, 3) := by decide +kernel
theorem dL_law_611 : decode cL_law 611 = .ok (.iconst 0, 1) := by decide +kernel
theorem dL_law_612 : decode cL_law 612 = .ok (.ireturn, 1) := by decide +kernel
theorem dL_law_613 : decode cL_law 613 = .ok (.aload_n 1, 1) := by decide +kernel
theorem dL_law_614 : decode cL_law 614 = .ok (.aload_n 0, 1) := by decide +kernel
theorem dL_law_615 : decode cL_law 615 = .ok (.iload_n 3, 1) := by decide +kernel
theorem dL_law_616 : decode cL_law 616 = .ok (.iconst 1, 1) := by decide +kernel
theorem dL_law_617 : decode cL_law 617 = .ok (.iadd, 1) := by decide +kernel
theorem dL_law_618 : decode cL_law 618 = .ok (.iaload, 1) := by decide +kernel
theorem dL_law_619 : decode cL_law 619 = .ok (.invokevirtual 88, 3) := by decide +kernel
theorem dL_law_622 : decode cL_law 622 = .ok (.aload_n 2, 1) := by decide +kernel
theorem dL_law_623 : decode cL_law 623 = .ok (.aload_n 0, 1) := by decide +kernel
theorem dL_law_624 : decode cL_law 624 = .ok (.iload_n 3, 1) := by decide +kernel
theorem dL_law_625 : decode cL_law 625 = .ok (.iconst 1, 1) := by decide +kernel
theorem dL_law_626 : decode cL_law 626 = .ok (.iadd, 1) := by decide +kernel
theorem dL_law_627 : decode cL_law 627 = .ok (.iaload, 1) := by decide +kernel
theorem dL_law_628 : decode cL_law 628 = .ok (.invokevirtual 91, 3) := by decide +kernel
theorem dL_law_631 : decode cL_law 631 = .ok (.if_icmp .eq 74, 3) := by decide +kernel
theorem dL_law_634 : decode cL_law 634 = .ok (.iconst 0, 1) := by decide +kernel
theorem dL_law_635 : decode cL_law 635 = .ok (.ireturn, 1) := by decide +kernel
theorem dL_law_636 : decode cL_law 636 = .ok (.aload_n 1, 1) := by decide +kernel
theorem dL_law_637 : decode cL_law 637 = .ok (.aload_n 0, 1) := by decide +kernel
theorem dL_law_638 : decode cL_law 638 = .ok (.iload_n 3, 1) := by decide +kernel
theorem dL_law_639 : decode cL_law 639 = .ok (.iconst 1, 1) := by decide +kernel
theorem dL_law_640 : decode cL_law 640 = .ok (.iadd, 1) := by decide +kernel
theorem dL_law_641 : decode cL_law 641 = .ok (.iaload, 1) := by decide +kernel
theorem dL_law_642 : decode cL_law 642 = .ok (.invokevirtual 92, 3) := by decide +kernel
theorem dL_law_645 : decode cL_law 645 = .ok (.aload_n 2, 1) := by decide +kernel
theorem dL_law_646 : decode cL_law 646 = .ok (.aload_n 0, 1) := by decide +kernel
theorem dL_law_647 : decode cL_law 647 = .ok (.iload_n 3, 1) := by decide +kernel
theorem dL_law_648 : decode cL_law 648 = .ok (.iconst 1, 1) := by decide +kernel
theorem dL_law_649 : decode cL_law 649 = .ok (.iadd, 1) := by decide +kernel
theorem dL_law_650 : decode cL_law 650 = .ok (.iaload, 1) := by decide +kernel
theorem dL_law_651 : decode cL_law 651 = .ok (.invokevirtual 95, 3) := by decide +kernel
theorem dL_law_654 : decode cL_law 654 = .ok (.if_icmp .eq 51, 3) := by decide +kernel
theorem dL_law_657 : decode cL_law 657 = .ok (.iconst 0, 1) := by decide +kernel
theorem dL_law_658 : decode cL_law 658 = .ok (.ireturn, 1) := by decide +kernel
theorem dL_law_659 : decode cL_law 659 = .ok (.aload_n 1, 1) := by decide +kernel
theorem dL_law_660 : decode cL_law 660 = .ok (.aload_n 0, 1) := by decide +kernel
theorem dL_law_661 : decode cL_law 661 = .ok (.iload_n 3, 1) := by decide +kernel
theorem dL_law_662 : decode cL_law 662 = .ok (.iconst 1, 1) := by decide +kernel
theorem dL_law_663 : decode cL_law 663 = .ok (.iadd, 1) := by decide +kernel
theorem dL_law_664 : decode cL_law 664 = .ok (.iaload, 1) := by decide +kernel
theorem dL_law_665 : decode cL_law 665 = .ok (.invokevirtual 96, 3) := by decide +kernel
theorem dL_law_668 : decode cL_law 668 = .ok (.aload_n 2, 1) := by decide +kernel
theorem dL_law_669 : decode cL_law 669 = .ok (.aload_n 0, 1) := by decide +kernel
theorem dL_law_670 : decode cL_law 670 = .ok (.iload_n 3, 1) := by decide +kernel
theorem dL_law_671 : decode cL_law 671 = .ok (.iconst 1, 1) := by decide +kernel
theorem dL_law_672 : decode cL_law 672 = .ok (.iadd, 1) := by decide +kernel
theorem dL_law_673 : decode cL_law 673 = .ok (.iaload, 1) := by decide +kernel
theorem dL_law_674 : decode cL_law 674 = .ok (.invokevirtual 99, 3) := by decide +kernel
theorem dL_law_677 : decode cL_law 677 = .ok (.if_icmp .eq 28, 3) := by decide +kernel
theorem dL_law_680 : decode cL_law 680 = .ok (.iconst 0, 1) := by decide +kernel
theorem dL_law_681 : decode cL_law 681 = .ok (.ireturn, 1) := by decide +kernel
theorem dL_law_682 : decode cL_law 682 = .ok (.aload_n 1, 1) := by decide +kernel
theorem dL_law_683 : decode cL_law 683 = .ok (.aload_n 0, 1) := by decide +kernel
theorem dL_law_684 : decode cL_law 684 = .ok (.iload_n 3, 1) := by decide +kernel
theorem dL_law_685 : decode cL_law 685 = .ok (.iconst 1, 1) := by decide +kernel
theorem dL_law_686 : decode cL_law 686 = .ok (.iadd, 1) := by decide +kernel
theorem dL_law_687 : decode cL_law 687 = .ok (.iaload, 1) := by decide +kernel
theorem dL_law_688 : decode cL_law 688 = .ok (.invokevirtual 100, 3) := by decide +kernel
theorem dL_law_691 : decode cL_law 691 = .ok (.aload_n 2, 1) := by decide +kernel
theorem dL_law_692 : decode cL_law 692 = .ok (.aload_n 0, 1) := by decide +kernel
theorem dL_law_693 : decode cL_law 693 = .ok (.iload_n 3, 1) := by decide +kernel
theorem dL_law_694 : decode cL_law 694 = .ok (.iconst 1, 1) := by decide +kernel
theorem dL_law_695 : decode cL_law 695 = .ok (.iadd, 1) := by decide +kernel
theorem dL_law_696 : decode cL_law 696 = .ok (.iaload, 1) := by decide +kernel
theorem dL_law_697 : decode cL_law 697 = .ok (.invokevirtual 103, 3) := by decide +kernel
theorem dL_law_700 : decode cL_law 700 = .ok (.if_icmp .eq 5, 3) := by decide +kernel
theorem dL_law_703 : decode cL_law 703 = .ok (.iconst 0, 1) := by decide +kernel
theorem dL_law_704 : decode cL_law 704 = .ok (.ireturn, 1) := by decide +kernel
theorem dL_law_705 : decode cL_law 705 = .ok (.iinc 3 6, 3) := by decide +kernel
theorem dL_law_708 : decode cL_law 708 = .ok (.goto (-690), 3) := by decide +kernel
theorem dL_law_711 : decode cL_law 711 = .ok (.iconst 1, 1) := by decide +kernel
theorem dL_law_712 : decode cL_law 712 = .ok (.ireturn, 1) := by decide +kernel
/-- the objects of LitmusHall$Cure, kind 0: what each holds, by its address -/
/-- the objects of LitmusHall$Explorer, kind 1: what each holds, by its address -/
/-- the objects of LitmusHall$Findings, kind 2: what each holds, by its address -/
/-- the objects of LitmusHall$Machine, kind 3: what each holds, by its address -/
/-- the objects of LitmusHall$Program, kind 4: what each holds, by its address -/
/-- the objects of LitmusHall$Race, kind 5: what each holds, by its address -/
/-- the objects of LitmusHall$Reader, kind 6: what each holds, by its address -/
/-- the objects of LitmusHall$State, kind 7: what each holds, by its address -/
/-- the objects of LitmusHall, kind 8: what each holds, by its address -/
/-- the objects of LitmusHallModel, kind 9: what each holds, by its address -/
/-- the arrays of kind 10: what each holds, by its address -/
/-- the arrays of kind 11: what each holds, by its address -/
/-- the arrays of kind 12: what each holds, by its address -/
/-- the pool: the addresses, the kind of each, and the kinds -/
/-- the empty pool -/
/-- the pool's rows by their kinds -/
/-! ===== END printed: names ===== -/

