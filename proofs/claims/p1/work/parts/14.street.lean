set_option maxRecDepth 20000 in
theorem ggX11_beginText_X11_isWithin : GoodIn wsX11_beginText wsX11_isWithin := goodIn_r _ [5] (by decide +kernel) (by decide +kernel)
set_option maxRecDepth 20000 in
theorem gX11_beginText_X11_isWithin : GoodIn wsX11_beginText (va_wsS RX11 130 yX11_isWithin wsX11_isWithin) := goodIn_app (goodIn_of _ (by decide +kernel)) ggX11_beginText_X11_isWithin
set_option maxRecDepth 20000 in
theorem ggX11_beginText_X11_needArgument : GoodIn wsX11_beginText wsX11_needArgument := goodIn_ca (goodIn_r _ [9, 10, 11, 12, 23, 24, 25, 26, 27, 28, 29, 30, 31, 32, 33, 34, 35, 36] (by decide +kernel) (by decide +kernel)) (goodIn_sub (fun _ h => List.mem_cons_of_mem _ (List.mem_append_right _ h)) (by decide +kernel))
set_option maxRecDepth 20000 in
theorem gX11_beginText_X11_needArgument : GoodIn wsX11_beginText (wsV RX11 134 RX11 yX11_needArgument wsX11_needArgument) := goodIn_app (goodIn_of _ (by decide +kernel)) ggX11_beginText_X11_needArgument
set_option maxRecDepth 20000 in
theorem ggX11_beginText_X8_begin : GoodIn wsX11_beginText wsX8_begin := goodIn_r _ [16, 17, 18, 19, 20, 21, 22, 37, 38, 39, 40, 41, 42, 43] (by decide +kernel) (by decide +kernel)
set_option maxRecDepth 20000 in
theorem gX11_beginText_X8_begin_n345 : GoodIn wsX11_beginText (wsX8_begin) := ggX11_beginText_X8_begin
set_option maxRecDepth 20000 in
theorem ggX11_law_X11_beginText : GoodIn wsX11_law wsX11_beginText := goodIn_ca (goodIn_r _ [11, 5, 12, 13, 10, 14, 15, 16, 17, 18, 19, 20, 21, 22, 23, 24, 25, 26, 27, 28, 29, 30, 31, 203, 204, 205, 206, 207, 208, 209, 210, 211, 212, 213, 214, 215, 216, 220, 221, 222, 223, 224, 225, 226] (by decide +kernel) (by decide +kernel)) (goodIn_sub (fun _ h => List.mem_cons_of_mem _ (List.mem_append_right _ h)) (by decide +kernel))
set_option maxRecDepth 20000 in
theorem gX11_law_X11_beginText : GoodIn wsX11_law (wsV RX11 85 RX11 yX11_beginText wsX11_beginText) := goodIn_app (goodIn_of _ (by decide +kernel)) ggX11_law_X11_beginText
set_option maxRecDepth 20000 in
theorem ggX11_rain_X11_beginText : GoodIn wsX11_rain wsX11_beginText := goodIn_ca (goodIn_r _ [8, 3, 9, 10, 7, 11, 12, 13, 14, 15, 16, 17, 18, 19, 20, 21, 22, 23, 24, 25, 26, 27, 28, 135, 136, 137, 138, 139, 140, 141, 142, 143, 144, 145, 146, 147, 148, 149, 150, 151, 152, 153, 154, 155] (by decide +kernel) (by decide +kernel)) (goodIn_sub (fun _ h => List.mem_cons_of_mem _ (List.mem_append_right _ h)) (by decide +kernel))
set_option maxRecDepth 20000 in
theorem gX11_rain_X11_beginText : GoodIn wsX11_rain (wsV RX11 85 RX11 yX11_beginText wsX11_beginText) := goodIn_app (goodIn_of _ (by decide +kernel)) ggX11_rain_X11_beginText
set_option maxRecDepth 20000 in
theorem ggX11_street_X11_beginText : GoodIn wsX11_street wsX11_beginText := goodIn_ca (goodIn_r _ [13, 4, 14, 15, 12, 16, 17, 18, 19, 20, 21, 22, 23, 24, 25, 26, 27, 28, 29, 30, 31, 32, 33, 240, 241, 242, 243, 244, 245, 246, 247, 248, 249, 250, 251, 252, 253, 254, 255, 256, 257, 258, 259, 260] (by decide +kernel) (by decide +kernel)) (goodIn_sub (fun _ h => List.mem_cons_of_mem _ (List.mem_append_right _ h)) (by decide +kernel))
set_option maxRecDepth 20000 in
theorem gX11_street_X11_beginText : GoodIn wsX11_street (wsV RX11 85 RX11 yX11_beginText wsX11_beginText) := goodIn_app (goodIn_of _ (by decide +kernel)) ggX11_street_X11_beginText
set_option maxRecDepth 20000 in
theorem ggX11_street_X4_reset : GoodIn wsX11_street wsX4_reset := goodIn_r _ [230, 231, 232, 233, 234, 64, 65, 66, 280, 281, 282, 283, 284] (by decide +kernel) (by decide +kernel)
set_option maxRecDepth 20000 in
theorem gX11_street_X4_reset_n102 : GoodIn wsX11_street (wsX4_reset) := ggX11_street_X4_reset
set_option maxRecDepth 20000 in
theorem ggX11_street_X6_cells : GoodIn wsX11_street wsX6_cells := goodIn_r _ [237, 48, 49, 261, 262, 263, 264, 265, 266, 267, 268, 269, 270, 271, 272, 273, 274, 275, 276, 277, 278, 279] (by decide +kernel) (by decide +kernel)
set_option maxRecDepth 20000 in
theorem gX11_street_X6_cells_n108 : GoodIn wsX11_street (wsX6_cells) := ggX11_street_X6_cells
set_option maxRecDepth 20000 in
theorem ggX11_street_X7_init : GoodIn wsX11_street wsX7_init := goodIn_r _ [35, 36, 37, 38, 39, 40, 238, 239] (by decide +kernel) (by decide +kernel)
set_option maxRecDepth 20000 in
theorem gX11_street_X7_init_n90 : GoodIn wsX11_street (wsX7_init) := ggX11_street_X7_init
set_option maxRecDepth 20000 in
theorem ggX11_street_X7_read : GoodIn wsX11_street wsX7_read := goodIn_r _ [43, 40, 39, 44, 45, 46, 47, 48, 49, 50, 51, 52, 53, 54, 55, 56, 57, 58, 59, 60, 61, 62, 63, 64, 65, 66, 67, 25, 68, 69, 70, 71, 72, 73, 32, 30, 28, 74, 75, 76, 77, 3, 78, 79, 80, 81, 82, 83, 31, 84, 85, 86, 87, 88, 89, 90, 91, 92, 93, 94, 95, 96, 97, 98, 99, 100, 101, 102, 103, 104, 105, 106, 107, 108, 109, 110, 111, 112, 113, 114, 115, 116, 117, 118, 119, 120, 121, 122, 123, 124, 125, 126, 127, 128, 129, 130, 131, 132, 133, 134, 135, 136, 137, 138, 139, 140, 141, 142, 143, 144, 145, 146, 147, 148, 149, 150, 33, 151, 152, 153, 154, 155, 156, 157, 158, 159, 160, 161, 162, 163, 164, 165, 166, 167, 168, 169, 170, 171, 172, 173, 174, 175, 176, 177, 178, 179, 180, 15, 12, 16, 181, 182, 183, 184, 185, 186, 187, 188, 189, 190, 191, 192, 193, 194, 195, 196, 197, 198, 199, 200, 201, 202, 203, 204, 205, 206, 207, 208, 209, 210, 211, 212, 213, 214, 215, 216, 217, 218, 219, 220, 221, 222, 223, 224, 225, 226, 238, 239, 261, 262, 263, 264, 265, 266, 267, 268, 269, 270, 271, 272, 273, 274, 275, 276, 277, 278, 279, 254, 255, 256, 257, 258, 259, 260] (by decide +kernel) (by decide +kernel)
set_option maxRecDepth 20000 in
theorem gX11_street_X7_read_n93 : GoodIn wsX11_street (wsX7_read) := ggX11_street_X7_read
set_option maxRecDepth 20000 in
theorem ggX11_street_X8_good : GoodIn wsX11_street wsX8_good := goodIn_r _ [183, 32, 254, 255, 256, 257, 258, 259, 260] (by decide +kernel) (by decide +kernel)
set_option maxRecDepth 20000 in
theorem gX11_street_X8_good_n96 : GoodIn wsX11_street (wsX8_good) := ggX11_street_X8_good
set_option maxRecDepth 20000 in
theorem ggX4_reset_J7_fill_53178 : GoodIn wsX4_reset wsJ7_fill_53178 := goodIn_r _ [7] (by decide +kernel) (by decide +kernel)
set_option maxRecDepth 20000 in
theorem gX4_reset_J7_fill_53178 : GoodIn wsX4_reset (va_wsS RX4 28 yJ7_fill_53178 wsJ7_fill_53178) := goodIn_app (goodIn_of _ (by decide +kernel)) ggX4_reset_J7_fill_53178
set_option maxRecDepth 20000 in
theorem ggX6_reset_J7_fill_53178 : GoodIn wsX6_reset wsJ7_fill_53178 := goodIn_r _ [19] (by decide +kernel) (by decide +kernel)
set_option maxRecDepth 20000 in
theorem gX6_reset_J7_fill_53178 : GoodIn wsX6_reset (va_wsS RX6 35 yJ7_fill_53178 wsJ7_fill_53178) := goodIn_app (goodIn_of _ (by decide +kernel)) ggX6_reset_J7_fill_53178
set_option maxRecDepth 20000 in
theorem ggX7_read_X6_reset : GoodIn wsX7_read wsX6_reset := goodIn_r _ [6, 7, 8, 9, 10, 11, 12, 13, 14, 15, 16, 17, 18, 19, 20, 21, 22, 23, 24, 25, 198, 199, 200, 201, 202, 203, 204, 205, 206, 207, 208, 209, 210, 211, 212, 213, 214, 215, 216] (by decide +kernel) (by decide +kernel)
set_option maxRecDepth 20000 in
theorem gX7_read_X6_reset_n19 : GoodIn wsX7_read (wsX6_reset) := ggX7_read_X6_reset
set_option maxRecDepth 20000 in
theorem ggX7_read_X8_hasMore : GoodIn wsX7_read wsX8_hasMore := goodIn_r _ [29, 30, 31, 32, 27, 33, 34, 35, 36, 37, 217, 218, 219, 220, 221, 222, 223] (by decide +kernel) (by decide +kernel)
set_option maxRecDepth 20000 in
theorem gX7_read_X8_hasMore_n24 : GoodIn wsX7_read (wsX8_hasMore) := ggX7_read_X8_hasMore
set_option maxRecDepth 20000 in
theorem ggX8_hasMore_X8_sign : GoodIn wsX8_hasMore wsX8_sign := goodIn_r _ [5, 6, 7, 8, 9, 10, 11, 12, 13, 14, 15, 16] (by decide +kernel) (by decide +kernel)
set_option maxRecDepth 20000 in
theorem gX8_hasMore_X8_sign : GoodIn wsX8_hasMore (wsV RX8 34 RX8 yX8_sign wsX8_sign) := goodIn_app (goodIn_of _ (by decide +kernel)) ggX8_hasMore_X8_sign
theorem dX11_beginText_0 : decode cX11_beginText 0 = .ok (.aload_n 0, 1) := by decide +kernel
theorem dX11_beginText_1 : decode cX11_beginText 1 = .ok (.iload_n 1, 1) := by decide +kernel
theorem dX11_beginText_10 : decode cX11_beginText 10 = .ok (.invokestatic 130, 3) := by decide +kernel
theorem dX11_beginText_13 : decode cX11_beginText 13 = .ok (.invokevirtual 134, 3) := by decide +kernel
theorem dX11_beginText_16 : decode cX11_beginText 16 = .ok (.aload_n 0, 1) := by decide +kernel
theorem dX11_beginText_17 : decode cX11_beginText 17 = .ok (.getfield 10, 3) := by decide +kernel
theorem dX11_beginText_2 : decode cX11_beginText 2 = .ok (.iconst 0, 1) := by decide +kernel
theorem dX11_beginText_20 : decode cX11_beginText 20 = .ok (.iload_n 1, 1) := by decide +kernel
theorem dX11_beginText_21 : decode cX11_beginText 21 = .ok (.invokevirtual 345, 3) := by decide +kernel
theorem dX11_beginText_24 : decode cX11_beginText 24 = .ok (.return_, 1) := by decide +kernel
theorem dX11_beginText_3 : decode cX11_beginText 3 = .ok (.aload_n 0, 1) := by decide +kernel
theorem dX11_beginText_4 : decode cX11_beginText 4 = .ok (.getfield 10, 3) := by decide +kernel
theorem dX11_beginText_7 : decode cX11_beginText 7 = .ok (.getfield 81, 3) := by decide +kernel
theorem dX11_law_0 : decode cX11_law 0 = .ok (.aload_n 0, 1) := by decide +kernel
theorem dX11_law_1 : decode cX11_law 1 = .ok (.iload_n 1, 1) := by decide +kernel
theorem dX11_law_2 : decode cX11_law 2 = .ok (.invokevirtual 85, 3) := by decide +kernel
theorem dX11_rain_0 : decode cX11_rain 0 = .ok (.aload_n 0, 1) := by decide +kernel
theorem dX11_rain_1 : decode cX11_rain 1 = .ok (.iload_n 1, 1) := by decide +kernel
theorem dX11_rain_2 : decode cX11_rain 2 = .ok (.invokevirtual 85, 3) := by decide +kernel
theorem dX11_street_0 : decode cX11_street 0 = .ok (.aload_n 0, 1) := by decide +kernel
theorem dX11_street_1 : decode cX11_street 1 = .ok (.iload_n 1, 1) := by decide +kernel
theorem dX11_street_10 : decode cX11_street 10 = .ok (.getfield 10, 3) := by decide +kernel
theorem dX11_street_13 : decode cX11_street 13 = .ok (.aload_n 0, 1) := by decide +kernel
theorem dX11_street_14 : decode cX11_street 14 = .ok (.getfield 35, 3) := by decide +kernel
theorem dX11_street_17 : decode cX11_street 17 = .ok (.invokespecial 90, 3) := by decide +kernel
theorem dX11_street_2 : decode cX11_street 2 = .ok (.invokevirtual 85, 3) := by decide +kernel
theorem dX11_street_20 : decode cX11_street 20 = .ok (.invokevirtual 93, 3) := by decide +kernel
theorem dX11_street_23 : decode cX11_street 23 = .ok (.aload_n 0, 1) := by decide +kernel
theorem dX11_street_24 : decode cX11_street 24 = .ok (.getfield 10, 3) := by decide +kernel
theorem dX11_street_27 : decode cX11_street 27 = .ok (.invokevirtual 96, 3) := by decide +kernel
theorem dX11_street_30 : decode cX11_street 30 = .ok (.ifCond .ne 14, 3) := by decide +kernel
theorem dX11_street_44 : decode cX11_street 44 = .ok (.aload_n 0, 1) := by decide +kernel
theorem dX11_street_45 : decode cX11_street 45 = .ok (.getfield 31, 3) := by decide +kernel
theorem dX11_street_48 : decode cX11_street 48 = .ok (.astore_n 2, 1) := by decide +kernel
theorem dX11_street_49 : decode cX11_street 49 = .ok (.aload_n 0, 1) := by decide +kernel
theorem dX11_street_5 : decode cX11_street 5 = .ok (.new 88, 3) := by decide +kernel
theorem dX11_street_50 : decode cX11_street 50 = .ok (.aload_n 0, 1) := by decide +kernel
theorem dX11_street_51 : decode cX11_street 51 = .ok (.getfield 35, 3) := by decide +kernel
theorem dX11_street_54 : decode cX11_street 54 = .ok (.putfield 31, 3) := by decide +kernel
theorem dX11_street_57 : decode cX11_street 57 = .ok (.aload_n 0, 1) := by decide +kernel
theorem dX11_street_58 : decode cX11_street 58 = .ok (.aload_n 2, 1) := by decide +kernel
theorem dX11_street_59 : decode cX11_street 59 = .ok (.putfield 35, 3) := by decide +kernel
theorem dX11_street_62 : decode cX11_street 62 = .ok (.aload_n 0, 1) := by decide +kernel
theorem dX11_street_63 : decode cX11_street 63 = .ok (.getfield 41, 3) := by decide +kernel
theorem dX11_street_66 : decode cX11_street 66 = .ok (.invokevirtual 102, 3) := by decide +kernel
theorem dX11_street_69 : decode cX11_street 69 = .ok (.aload_n 0, 1) := by decide +kernel
theorem dX11_street_70 : decode cX11_street 70 = .ok (.iconst 0, 1) := by decide +kernel
theorem dX11_street_71 : decode cX11_street 71 = .ok (.putfield 105, 3) := by decide +kernel
theorem dX11_street_74 : decode cX11_street 74 = .ok (.aload_n 0, 1) := by decide +kernel
theorem dX11_street_75 : decode cX11_street 75 = .ok (.getfield 31, 3) := by decide +kernel
theorem dX11_street_78 : decode cX11_street 78 = .ok (.invokevirtual 108, 3) := by decide +kernel
theorem dX11_street_8 : decode cX11_street 8 = .ok (.dup, 1) := by decide +kernel
theorem dX11_street_81 : decode cX11_street 81 = .ok (.ireturn, 1) := by decide +kernel
theorem dX11_street_9 : decode cX11_street 9 = .ok (.aload_n 0, 1) := by decide +kernel
theorem dX4_reset_0 : decode cX4_reset 0 = .ok (.aload_n 0, 1) := by decide +kernel
theorem dX4_reset_1 : decode cX4_reset 1 = .ok (.iconst 0, 1) := by decide +kernel
theorem dX4_reset_10 : decode cX4_reset 10 = .ok (.aload_n 0, 1) := by decide +kernel
theorem dX4_reset_11 : decode cX4_reset 11 = .ok (.getfield 18, 3) := by decide +kernel
theorem dX4_reset_14 : decode cX4_reset 14 = .ok (.iconst 1, 1) := by decide +kernel
theorem dX4_reset_15 : decode cX4_reset 15 = .ok (.invokestatic 28, 3) := by decide +kernel
theorem dX4_reset_18 : decode cX4_reset 18 = .ok (.return_, 1) := by decide +kernel
theorem dX4_reset_2 : decode cX4_reset 2 = .ok (.putfield 21, 3) := by decide +kernel
theorem dX4_reset_5 : decode cX4_reset 5 = .ok (.aload_n 0, 1) := by decide +kernel
theorem dX4_reset_6 : decode cX4_reset 6 = .ok (.iconst 0, 1) := by decide +kernel
theorem dX4_reset_7 : decode cX4_reset 7 = .ok (.putfield 25, 3) := by decide +kernel
theorem dX6_reset_0 : decode cX6_reset 0 = .ok (.aload_n 0, 1) := by decide +kernel
theorem dX6_reset_1 : decode cX6_reset 1 = .ok (.bipush 8, 2) := by decide +kernel
theorem dX6_reset_11 : decode cX6_reset 11 = .ok (.aload_n 0, 1) := by decide +kernel
theorem dX6_reset_12 : decode cX6_reset 12 = .ok (.getfield 9, 3) := by decide +kernel
theorem dX6_reset_15 : decode cX6_reset 15 = .ok (.bipush 50, 2) := by decide +kernel
theorem dX6_reset_17 : decode cX6_reset 17 = .ok (.invokestatic 35, 3) := by decide +kernel
theorem dX6_reset_20 : decode cX6_reset 20 = .ok (.aload_n 0, 1) := by decide +kernel
theorem dX6_reset_21 : decode cX6_reset 21 = .ok (.getfield 13, 3) := by decide +kernel
theorem dX6_reset_24 : decode cX6_reset 24 = .ok (.iconst 0, 1) := by decide +kernel
theorem dX6_reset_25 : decode cX6_reset 25 = .ok (.invokestatic 35, 3) := by decide +kernel
theorem dX6_reset_28 : decode cX6_reset 28 = .ok (.aload_n 0, 1) := by decide +kernel
theorem dX6_reset_29 : decode cX6_reset 29 = .ok (.iconst 0, 1) := by decide +kernel
theorem dX6_reset_3 : decode cX6_reset 3 = .ok (.putfield 28, 3) := by decide +kernel
theorem dX6_reset_30 : decode cX6_reset 30 = .ok (.putfield 41, 3) := by decide +kernel
theorem dX6_reset_33 : decode cX6_reset 33 = .ok (.aload_n 0, 1) := by decide +kernel
theorem dX6_reset_34 : decode cX6_reset 34 = .ok (.iconst 0, 1) := by decide +kernel
theorem dX6_reset_35 : decode cX6_reset 35 = .ok (.putfield 44, 3) := by decide +kernel
theorem dX6_reset_38 : decode cX6_reset 38 = .ok (.aload_n 0, 1) := by decide +kernel
theorem dX6_reset_39 : decode cX6_reset 39 = .ok (.iconst 0, 1) := by decide +kernel
theorem dX6_reset_40 : decode cX6_reset 40 = .ok (.putfield 47, 3) := by decide +kernel
theorem dX6_reset_43 : decode cX6_reset 43 = .ok (.aload_n 0, 1) := by decide +kernel
theorem dX6_reset_44 : decode cX6_reset 44 = .ok (.iconst 0, 1) := by decide +kernel
theorem dX6_reset_45 : decode cX6_reset 45 = .ok (.putfield 50, 3) := by decide +kernel
theorem dX6_reset_48 : decode cX6_reset 48 = .ok (.aload_n 0, 1) := by decide +kernel
theorem dX6_reset_49 : decode cX6_reset 49 = .ok (.iconst 0, 1) := by decide +kernel
theorem dX6_reset_50 : decode cX6_reset 50 = .ok (.putfield 53, 3) := by decide +kernel
theorem dX6_reset_53 : decode cX6_reset 53 = .ok (.aload_n 0, 1) := by decide +kernel
theorem dX6_reset_54 : decode cX6_reset 54 = .ok (.iconst 0, 1) := by decide +kernel
theorem dX6_reset_55 : decode cX6_reset 55 = .ok (.putfield 56, 3) := by decide +kernel
theorem dX6_reset_58 : decode cX6_reset 58 = .ok (.aload_n 0, 1) := by decide +kernel
theorem dX6_reset_59 : decode cX6_reset 59 = .ok (.iconst 0, 1) := by decide +kernel
theorem dX6_reset_6 : decode cX6_reset 6 = .ok (.aload_n 0, 1) := by decide +kernel
theorem dX6_reset_60 : decode cX6_reset 60 = .ok (.putfield 59, 3) := by decide +kernel
theorem dX6_reset_63 : decode cX6_reset 63 = .ok (.aload_n 0, 1) := by decide +kernel
theorem dX6_reset_64 : decode cX6_reset 64 = .ok (.iconst 0, 1) := by decide +kernel
theorem dX6_reset_65 : decode cX6_reset 65 = .ok (.putfield 62, 3) := by decide +kernel
theorem dX6_reset_68 : decode cX6_reset 68 = .ok (.aload_n 0, 1) := by decide +kernel
theorem dX6_reset_69 : decode cX6_reset 69 = .ok (.iconst 0, 1) := by decide +kernel
theorem dX6_reset_7 : decode cX6_reset 7 = .ok (.iconst 3, 1) := by decide +kernel
theorem dX6_reset_70 : decode cX6_reset 70 = .ok (.putfield 65, 3) := by decide +kernel
theorem dX6_reset_73 : decode cX6_reset 73 = .ok (.aload_n 0, 1) := by decide +kernel
theorem dX6_reset_74 : decode cX6_reset 74 = .ok (.iconst 0, 1) := by decide +kernel
theorem dX6_reset_75 : decode cX6_reset 75 = .ok (.putfield 68, 3) := by decide +kernel
theorem dX6_reset_78 : decode cX6_reset 78 = .ok (.aload_n 0, 1) := by decide +kernel
theorem dX6_reset_79 : decode cX6_reset 79 = .ok (.iconst 0, 1) := by decide +kernel
theorem dX6_reset_8 : decode cX6_reset 8 = .ok (.putfield 32, 3) := by decide +kernel
theorem dX6_reset_80 : decode cX6_reset 80 = .ok (.putfield 71, 3) := by decide +kernel
theorem dX6_reset_83 : decode cX6_reset 83 = .ok (.return_, 1) := by decide +kernel
theorem dX7_init_0 : decode cX7_init 0 = .ok (.aload_n 0, 1) := by decide +kernel
theorem dX7_init_1 : decode cX7_init 1 = .ok (.invokespecial 3, 3) := by decide +kernel
theorem dX7_init_10 : decode cX7_init 10 = .ok (.aload_n 2, 1) := by decide +kernel
theorem dX7_init_11 : decode cX7_init 11 = .ok (.putfield 15, 3) := by decide +kernel
theorem dX7_init_14 : decode cX7_init 14 = .ok (.return_, 1) := by decide +kernel
theorem dX7_init_4 : decode cX7_init 4 = .ok (.aload_n 0, 1) := by decide +kernel
theorem dX7_init_5 : decode cX7_init 5 = .ok (.aload_n 1, 1) := by decide +kernel
theorem dX7_init_6 : decode cX7_init 6 = .ok (.putfield 9, 3) := by decide +kernel
theorem dX7_init_9 : decode cX7_init 9 = .ok (.aload_n 0, 1) := by decide +kernel
theorem dX7_read_0 : decode cX7_read 0 = .ok (.aload_n 0, 1) := by decide +kernel
theorem dX7_read_1 : decode cX7_read 1 = .ok (.getfield 15, 3) := by decide +kernel
theorem dX7_read_10 : decode cX7_read 10 = .ok (.bipush 60, 2) := by decide +kernel
theorem dX7_read_12 : decode cX7_read 12 = .ok (.if_icmp .gt 24, 3) := by decide +kernel
theorem dX7_read_15 : decode cX7_read 15 = .ok (.aload_n 0, 1) := by decide +kernel
theorem dX7_read_16 : decode cX7_read 16 = .ok (.getfield 9, 3) := by decide +kernel
theorem dX7_read_19 : decode cX7_read 19 = .ok (.invokevirtual 24, 3) := by decide +kernel
theorem dX7_read_22 : decode cX7_read 22 = .ok (.ifCond .eq 14, 3) := by decide +kernel
theorem dX7_read_36 : decode cX7_read 36 = .ok (.return_, 1) := by decide +kernel
theorem dX7_read_4 : decode cX7_read 4 = .ok (.invokevirtual 19, 3) := by decide +kernel
theorem dX7_read_7 : decode cX7_read 7 = .ok (.iconst 0, 1) := by decide +kernel
theorem dX7_read_8 : decode cX7_read 8 = .ok (.istore_n 1, 1) := by decide +kernel
theorem dX7_read_9 : decode cX7_read 9 = .ok (.iload_n 1, 1) := by decide +kernel
theorem dX8_begin_0 : decode cX8_begin 0 = .ok (.aload_n 0, 1) := by decide +kernel
theorem dX8_begin_1 : decode cX8_begin 1 = .ok (.iload_n 1, 1) := by decide +kernel
theorem dX8_begin_10 : decode cX8_begin 10 = .ok (.aload_n 0, 1) := by decide +kernel
theorem dX8_begin_11 : decode cX8_begin 11 = .ok (.iconst 0, 1) := by decide +kernel
theorem dX8_begin_12 : decode cX8_begin 12 = .ok (.putfield 25, 3) := by decide +kernel
theorem dX8_begin_15 : decode cX8_begin 15 = .ok (.aload_n 0, 1) := by decide +kernel
theorem dX8_begin_16 : decode cX8_begin 16 = .ok (.iconst 0, 1) := by decide +kernel
theorem dX8_begin_17 : decode cX8_begin 17 = .ok (.putfield 28, 3) := by decide +kernel
theorem dX8_begin_2 : decode cX8_begin 2 = .ok (.putfield 22, 3) := by decide +kernel
theorem dX8_begin_20 : decode cX8_begin 20 = .ok (.aload_n 0, 1) := by decide +kernel
theorem dX8_begin_21 : decode cX8_begin 21 = .ok (.iconst 0, 1) := by decide +kernel
theorem dX8_begin_22 : decode cX8_begin 22 = .ok (.putfield 31, 3) := by decide +kernel
theorem dX8_begin_25 : decode cX8_begin 25 = .ok (.aload_n 0, 1) := by decide +kernel
theorem dX8_begin_26 : decode cX8_begin 26 = .ok (.iconst (-1), 1) := by decide +kernel
theorem dX8_begin_27 : decode cX8_begin 27 = .ok (.putfield 15, 3) := by decide +kernel
theorem dX8_begin_30 : decode cX8_begin 30 = .ok (.return_, 1) := by decide +kernel
theorem dX8_begin_5 : decode cX8_begin 5 = .ok (.aload_n 0, 1) := by decide +kernel
theorem dX8_begin_6 : decode cX8_begin 6 = .ok (.iconst 0, 1) := by decide +kernel
theorem dX8_begin_7 : decode cX8_begin 7 = .ok (.putfield 19, 3) := by decide +kernel
theorem dX8_good_0 : decode cX8_good 0 = .ok (.aload_n 0, 1) := by decide +kernel
theorem dX8_good_1 : decode cX8_good 1 = .ok (.getfield 31, 3) := by decide +kernel
theorem dX8_good_12 : decode cX8_good 12 = .ok (.ireturn, 1) := by decide +kernel
theorem dX8_good_4 : decode cX8_good 4 = .ok (.ifCond .ne 7, 3) := by decide +kernel
theorem dX8_good_7 : decode cX8_good 7 = .ok (.iconst 1, 1) := by decide +kernel
theorem dX8_good_8 : decode cX8_good 8 = .ok (.goto 4, 3) := by decide +kernel
theorem dX8_hasMore_0 : decode cX8_hasMore 0 = .ok (.aload_n 0, 1) := by decide +kernel
theorem dX8_hasMore_1 : decode cX8_hasMore 1 = .ok (.invokevirtual 34, 3) := by decide +kernel
theorem dX8_hasMore_12 : decode cX8_hasMore 12 = .ok (.iconst 0, 1) := by decide +kernel
theorem dX8_hasMore_13 : decode cX8_hasMore 13 = .ok (.ireturn, 1) := by decide +kernel
theorem dX8_hasMore_4 : decode cX8_hasMore 4 = .ok (.iconst (-1), 1) := by decide +kernel
theorem dX8_hasMore_5 : decode cX8_hasMore 5 = .ok (.if_icmp .eq 7, 3) := by decide +kernel
theorem dX8_sign_0 : decode cX8_sign 0 = .ok (.aload_n 0, 1) := by decide +kernel
theorem dX8_sign_1 : decode cX8_sign 1 = .ok (.getfield 31, 3) := by decide +kernel
theorem dX8_sign_10 : decode cX8_sign 10 = .ok (.getfield 25, 3) := by decide +kernel
theorem dX8_sign_13 : decode cX8_sign 13 = .ok (.aload_n 0, 1) := by decide +kernel
theorem dX8_sign_14 : decode cX8_sign 14 = .ok (.getfield 22, 3) := by decide +kernel
theorem dX8_sign_17 : decode cX8_sign 17 = .ok (.if_icmp .ge 30, 3) := by decide +kernel
theorem dX8_sign_4 : decode cX8_sign 4 = .ok (.ifCond .eq 5, 3) := by decide +kernel
theorem dX8_sign_47 : decode cX8_sign 47 = .ok (.aload_n 0, 1) := by decide +kernel
theorem dX8_sign_48 : decode cX8_sign 48 = .ok (.getfield 25, 3) := by decide +kernel
theorem dX8_sign_51 : decode cX8_sign 51 = .ok (.aload_n 0, 1) := by decide +kernel
theorem dX8_sign_52 : decode cX8_sign 52 = .ok (.getfield 22, 3) := by decide +kernel
theorem dX8_sign_55 : decode cX8_sign 55 = .ok (.if_icmp .ge 19, 3) := by decide +kernel
theorem dX8_sign_74 : decode cX8_sign 74 = .ok (.iconst (-1), 1) := by decide +kernel
theorem dX8_sign_75 : decode cX8_sign 75 = .ok (.ireturn, 1) := by decide +kernel
theorem dX8_sign_9 : decode cX8_sign 9 = .ok (.aload_n 0, 1) := by decide +kernel
set_option maxHeartbeats 4000000 in
set_option maxRecDepth 100000 in
theorem c_begin (l : Launch) (hl : l.stackTraces = false) (D : va_G) (cy : Nat → ClassId) (sa : Nat → Nat) (ka : Nat → Nat) (sz : Nat) : Met l yX8_begin wsX8_begin ({ frames := 0, cells := 0, slots := 0, locals := 0 }) (va_Pc [.ref (ka 0), .int 0] (pcW D cy sa sz [((ka 0), .inr (8, [.ref (ka 20), .int 0, .int 0, .int 0, .int 0, .int 0, .int (-1)]))])) (va_Qv (fun u : SU => (True)) (fun u t => atW D (va_A [((ka 0), .inr (8, [.ref (ka 20), .int 0, .int 0, .int 0, .int 0, .int 0, .int (-1)]))] sz) [((ka 0), .inr (8, [.ref (ka 20), .int 0, .int 0, .int 0, .int 0, .int 0, .int (-1)]))] t) (va_A [((ka 0), .inr (8, [.ref (ka 20), .int 0, .int 0, .int 0, .int 0, .int 0, .int (-1)]))] sz)) 0 0 (va_A [((ka 0), .inr (8, [.ref (ka 20), .int 0, .int 0, .int 0, .int 0, .int 0, .int (-1)]))] sz) := by
  refine Met.ofW (cc := cX8_begin) (maxL := 2) (ret := none) (by decide) rfl ?_
  intro p e s m args below meth c s₁ B hml hv
  obtain ⟨rfl, hsz, hP, hG, hD0, hT⟩ := hv
  have hx := B.exec
  have hb := B.bytes
  have hr := B.returns
  have hts := atoms_spec (ws := wsX8_begin) B.pre
  have hown : s.vm.findClass RX8 = some m.cls := findClass_of_methodNamed B.named
  have hlocks := B.notSynchronized
  subst hsz
  have hD := hD0.self (sz := s.heap.size)
  generalize hAe : va_A [((ka 0), .inr (8, [.ref (ka 20), .int 0, .int 0, .int 0, .int 0, .int 0, .int (-1)]))] s.heap.size = A at hD hT ⊢
  have hA : ∀ q : Nat, s.heap.size ≤ q → A q := fun q h => by rw [← hAe]; exact Or.inr h
  have hS : va_S A s.heap s.heap [] := va_S.rf
  have hl0 := lv_entry ([.ref (ka 0), .int 0]) (n := 2) (Nat.le_of_ble_eq_true rfl)
  rw [lg_entry_eq]
  generalize (lg_sl ([.ref (ka 0), .int 0]) ++ List.replicate (2 - (lg_sl ([.ref (ka 0), .int 0])).length) Slot.unset).toArray = ls at hl0 ⊢
  have hlv : lv_has ls 2 [(0, .ref (ka 0)), (1, .int 0)] := hl0
  have lf22 := hts (.fieldLink RX8 22 "KerbSplash$Tape" "length" "I") (by decide +kernel)
  have hi8 : ∀ w ∈ wsX80, w ∈ wsX8_begin := by decide +kernel
  have lf19 := hts (.fieldLink RX8 19 "KerbSplash$Tape" "fed" "I") (by decide +kernel)
  have lf25 := hts (.fieldLink RX8 25 "KerbSplash$Tape" "at" "I") (by decide +kernel)
  have lf28 := hts (.fieldLink RX8 28 "KerbSplash$Tape" "wordEnd" "I") (by decide +kernel)
  have lf31 := hts (.fieldLink RX8 31 "KerbSplash$Tape" "fault" "I") (by decide +kernel)
  have lf15 := hts (.fieldLink RX8 15 "KerbSplash$Tape" "faultAt" "I") (by decide +kernel)
  refine lv_aload_n hx hb dX8_begin_0 rfl (lv_at hlv 0 rfl) ?_
  refine lv_iload_n hx hb dX8_begin_1 rfl (lv_at hlv 1 rfl) ?_
  refine va_put (D := D) (ci := 8) (v := .int 0) (ty := .int) (C := RX8) (T := TX8) (N := 7) hx hb hts hi8 tyX8 tyX8_ok nmX8 hown hG.1 hP hD hS 0 rfl rfl 2 (by decide) lf22 (fun _ h9 => h9) rfl (by decide +kernel) rfl rfl (Nat.le_of_ble_eq_true rfl) dX8_begin_2 (fun H locs hP hD hS => ?_)
  have hP : va_P D vwCl [((ka 0), .inr (8, [.ref (ka 20), .int 0, .int 0, .int 0, .int 0, .int 0, .int (-1)]))] H := hP
  have hD : va_D A [((ka 0), .inr (8, [.ref (ka 20), .int 0, .int 0, .int 0, .int 0, .int 0, .int (-1)]))] := hD
  refine lv_aload_n hx hb dX8_begin_5 rfl (lv_at hlv 0 rfl) ?_
  refine lv_iconst (v := 0) hx hb dX8_begin_6 (by decide) ?_
  refine va_put (D := D) (ci := 8) (v := .int 0) (ty := .int) (C := RX8) (T := TX8) (N := 7) hx hb hts hi8 tyX8 tyX8_ok nmX8 hown hG.1 hP hD hS 0 rfl rfl 1 (by decide) lf19 (fun _ h9 => h9) rfl (by decide +kernel) rfl rfl (Nat.le_of_ble_eq_true rfl) dX8_begin_7 (fun H locs hP hD hS => ?_)
  have hP : va_P D vwCl [((ka 0), .inr (8, [.ref (ka 20), .int 0, .int 0, .int 0, .int 0, .int 0, .int (-1)]))] H := hP
  have hD : va_D A [((ka 0), .inr (8, [.ref (ka 20), .int 0, .int 0, .int 0, .int 0, .int 0, .int (-1)]))] := hD
  refine lv_aload_n hx hb dX8_begin_10 rfl (lv_at hlv 0 rfl) ?_
  refine lv_iconst (v := 0) hx hb dX8_begin_11 (by decide) ?_
  refine va_put (D := D) (ci := 8) (v := .int 0) (ty := .int) (C := RX8) (T := TX8) (N := 7) hx hb hts hi8 tyX8 tyX8_ok nmX8 hown hG.1 hP hD hS 0 rfl rfl 3 (by decide) lf25 (fun _ h9 => h9) rfl (by decide +kernel) rfl rfl (Nat.le_of_ble_eq_true rfl) dX8_begin_12 (fun H locs hP hD hS => ?_)
  have hP : va_P D vwCl [((ka 0), .inr (8, [.ref (ka 20), .int 0, .int 0, .int 0, .int 0, .int 0, .int (-1)]))] H := hP
  have hD : va_D A [((ka 0), .inr (8, [.ref (ka 20), .int 0, .int 0, .int 0, .int 0, .int 0, .int (-1)]))] := hD
  refine lv_aload_n hx hb dX8_begin_15 rfl (lv_at hlv 0 rfl) ?_
  refine lv_iconst (v := 0) hx hb dX8_begin_16 (by decide) ?_
  refine va_put (D := D) (ci := 8) (v := .int 0) (ty := .int) (C := RX8) (T := TX8) (N := 7) hx hb hts hi8 tyX8 tyX8_ok nmX8 hown hG.1 hP hD hS 0 rfl rfl 4 (by decide) lf28 (fun _ h9 => h9) rfl (by decide +kernel) rfl rfl (Nat.le_of_ble_eq_true rfl) dX8_begin_17 (fun H locs hP hD hS => ?_)
  have hP : va_P D vwCl [((ka 0), .inr (8, [.ref (ka 20), .int 0, .int 0, .int 0, .int 0, .int 0, .int (-1)]))] H := hP
  have hD : va_D A [((ka 0), .inr (8, [.ref (ka 20), .int 0, .int 0, .int 0, .int 0, .int 0, .int (-1)]))] := hD
  refine lv_aload_n hx hb dX8_begin_20 rfl (lv_at hlv 0 rfl) ?_
  refine lv_iconst (v := 0) hx hb dX8_begin_21 (by decide) ?_
  refine va_put (D := D) (ci := 8) (v := .int 0) (ty := .int) (C := RX8) (T := TX8) (N := 7) hx hb hts hi8 tyX8 tyX8_ok nmX8 hown hG.1 hP hD hS 0 rfl rfl 5 (by decide) lf31 (fun _ h9 => h9) rfl (by decide +kernel) rfl rfl (Nat.le_of_ble_eq_true rfl) dX8_begin_22 (fun H locs hP hD hS => ?_)
  have hP : va_P D vwCl [((ka 0), .inr (8, [.ref (ka 20), .int 0, .int 0, .int 0, .int 0, .int 0, .int (-1)]))] H := hP
  have hD : va_D A [((ka 0), .inr (8, [.ref (ka 20), .int 0, .int 0, .int 0, .int 0, .int 0, .int (-1)]))] := hD
  refine lv_aload_n hx hb dX8_begin_25 rfl (lv_at hlv 0 rfl) ?_
  refine lv_iconst (v := (-1)) hx hb dX8_begin_26 (by decide) ?_
  refine va_put (D := D) (ci := 8) (v := .int (-1)) (ty := .int) (C := RX8) (T := TX8) (N := 7) hx hb hts hi8 tyX8 tyX8_ok nmX8 hown hG.1 hP hD hS 0 rfl rfl 6 (by decide) lf15 (fun _ h9 => h9) rfl (by decide +kernel) rfl rfl (Nat.le_of_ble_eq_true rfl) dX8_begin_27 (fun H locs hP hD hS => ?_)
  have hP : va_P D vwCl [((ka 0), .inr (8, [.ref (ka 20), .int 0, .int 0, .int 0, .int 0, .int 0, .int (-1)]))] H := hP
  have hD : va_D A [((ka 0), .inr (8, [.ref (ka 20), .int 0, .int 0, .int 0, .int 0, .int 0, .int (-1)]))] := hD
  refine W.widen (k := 0) (n := 0) (Nat.le_of_ble_eq_true rfl) (Nat.le_of_ble_eq_true rfl) ?_
  exact W.vret hx hb hr (fun t ht hW => ⟨⟨((fun k => ([] : List Nat).getD k 0), (fun k => ([] : List Int32).getD k 0), (fun k => ([] : List (Nat → Int32)).getD k (fun _ => 0))), rfl, (by first | (trivial)), by rw [ht]; exact hP.sub [0] rfl, hD.sub [0] (by decide) rfl⟩, hS.F ht⟩) hS.2.2 dX8_begin_30
set_option maxHeartbeats 4000000 in
set_option maxRecDepth 100000 in
theorem c_beginText0 (l : Launch) (hl : l.stackTraces = false) (D : va_G) (cy : Nat → ClassId) (sa : Nat → Nat) (ko : Nat) (ka : Nat → Nat) (sz : Nat) : Met l yX11_beginText wsX11_beginText ({ frames := 1, cells := 0, slots := 0, locals := 22 }) (va_Pc [.ref ko, .int 0] (pcW D cy sa sz [(ko, .inr (11, [.ref (ka 0), .ref (ka 1), .ref (ka 2), .int 0, .int 0, .ref (ka 5), .ref (ka 6), .ref (ka 7), .ref (ka 8), .ref (ka 9), .int 0, .ref (ka 11), .ref (ka 12), .ref (ka 13)])), ((ka 0), .inr (8, [.ref (ka 20), .int 0, .int 0, .int 0, .int 0, .int 0, .int (-1)]))])) (va_Qv (fun u : SU => (True)) (fun u t => atW D (va_A [(ko, .inr (11, [.ref (ka 0), .ref (ka 1), .ref (ka 2), .int 0, .int 0, .ref (ka 5), .ref (ka 6), .ref (ka 7), .ref (ka 8), .ref (ka 9), .int 0, .ref (ka 11), .ref (ka 12), .ref (ka 13)])), ((ka 0), .inr (8, [.ref (ka 20), .int 0, .int 0, .int 0, .int 0, .int 0, .int (-1)]))] sz) [(ko, .inr (11, [.ref (ka 0), .ref (ka 1), .ref (ka 2), .int 0, .int 0, .ref (ka 5), .ref (ka 6), .ref (ka 7), .ref (ka 8), .ref (ka 9), .int 0, .ref (ka 11), .ref (ka 12), .ref (ka 13)])), ((ka 0), .inr (8, [.ref (ka 20), .int 0, .int 0, .int 0, .int 0, .int 0, .int (-1)]))] t) (va_A [(ko, .inr (11, [.ref (ka 0), .ref (ka 1), .ref (ka 2), .int 0, .int 0, .ref (ka 5), .ref (ka 6), .ref (ka 7), .ref (ka 8), .ref (ka 9), .int 0, .ref (ka 11), .ref (ka 12), .ref (ka 13)])), ((ka 0), .inr (8, [.ref (ka 20), .int 0, .int 0, .int 0, .int 0, .int 0, .int (-1)]))] sz)) 0 0 (va_A [(ko, .inr (11, [.ref (ka 0), .ref (ka 1), .ref (ka 2), .int 0, .int 0, .ref (ka 5), .ref (ka 6), .ref (ka 7), .ref (ka 8), .ref (ka 9), .int 0, .ref (ka 11), .ref (ka 12), .ref (ka 13)])), ((ka 0), .inr (8, [.ref (ka 20), .int 0, .int 0, .int 0, .int 0, .int 0, .int (-1)]))] sz) := by
  refine Met.ofW (cc := cX11_beginText) (maxL := 2) (ret := none) (by decide) rfl ?_
  intro p e s m args below meth c s₁ B hml hv
  obtain ⟨rfl, hsz, hP, hG, hD0, hT⟩ := hv
  have hx := B.exec
  have hb := B.bytes
  have hr := B.returns
  have hts := atoms_spec (ws := wsX11_beginText) B.pre
  have hown : s.vm.findClass RX11 = some m.cls := findClass_of_methodNamed B.named
  have hlocks := B.notSynchronized
  subst hsz
  have hD := hD0.self (sz := s.heap.size)
  generalize hAe : va_A [(ko, .inr (11, [.ref (ka 0), .ref (ka 1), .ref (ka 2), .int 0, .int 0, .ref (ka 5), .ref (ka 6), .ref (ka 7), .ref (ka 8), .ref (ka 9), .int 0, .ref (ka 11), .ref (ka 12), .ref (ka 13)])), ((ka 0), .inr (8, [.ref (ka 20), .int 0, .int 0, .int 0, .int 0, .int 0, .int (-1)]))] s.heap.size = A at hD hT ⊢
  have hA : ∀ q : Nat, s.heap.size ≤ q → A q := fun q h => by rw [← hAe]; exact Or.inr h
  have hS : va_S A s.heap s.heap [] := va_S.rf
  have hl0 := lv_entry ([.ref ko, .int 0]) (n := 2) (Nat.le_of_ble_eq_true rfl)
  rw [lg_entry_eq]
  generalize (lg_sl ([.ref ko, .int 0]) ++ List.replicate (2 - (lg_sl ([.ref ko, .int 0])).length) Slot.unset).toArray = ls at hl0 ⊢
  have hlv : lv_has ls 2 [(0, .ref ko), (1, .int 0)] := hl0
  have lf10 := hts (.fieldLink RX11 10 "KerbSplash" "tape" "LKerbSplash$Tape;") (by decide +kernel)
  have hi11 : ∀ w ∈ wsX110, w ∈ wsX11_beginText := by decide +kernel
  have hi8 : ∀ w ∈ wsX80, w ∈ wsX11_beginText := by decide +kernel
  have ini_RX8 := hts (.initialized RX8) (by decide +kernel)
  have im_X8_begin := hts (.instanceMethod yX8_begin) (by decide +kernel)
  have se_X8_begin := hts (.selects RX8 yX8_begin yX8_begin) (by decide +kernel)
  refine lv_aload_n hx hb dX11_beginText_0 rfl (lv_at hlv 0 rfl) ?_
  refine lv_iload_n hx hb dX11_beginText_1 rfl (lv_at hlv 1 rfl) ?_
  refine lv_iconst (v := 0) hx hb dX11_beginText_2 (by decide) ?_
  refine lv_aload_n hx hb dX11_beginText_3 rfl (lv_at hlv 0 rfl) ?_
  refine va_get (D := D) (ci := 11) (v := .ref (ka 0)) (C := RX11) (T := TX11) (N := 14) hx hb hts hi11 hown hG.1 hP 0 rfl rfl 0 (by decide) lf10 (fun _ h9 => h9) rfl dX11_beginText_4 ?_
  refine va_getN (D := D) (ci := 8) (v := .int 0) (C := RX8) (T := TX8) (N := 7) hx hb hts hi8 hown hG.1 hP 1 rfl rfl 1 (by decide) (va_Nw.use rfl (nF_K_81 hG.2.1)) (fun _ h9 => h9) rfl dX11_beginText_7 ?_
  refine cj_i (wr := [(ko, .inr (11, [.ref (ka 0), .ref (ka 1), .ref (ka 2), .int 0, .int 0, .ref (ka 5), .ref (ka 6), .ref (ka 7), .ref (ka 8), .ref (ka 9), .int 0, .ref (ka 11), .ref (ka 12), .ref (ka 13)])), ((ka 0), .inr (8, [.ref (ka 20), .int 0, .int 0, .int 0, .int 0, .int 0, .int (-1)]))]) (va_runS (As := [.int 0, .int 0, .int 0]) (rest := [.ref ko]) ⟨hx, hb, hml, hown, hts⟩ (c_isWithin l hl D cy sa 0 0 0 s.heap.size) (va_cwS 3 hts gX11_beginText_X11_isWithin rfl rfl rfl (by decide +kernel) ⟨Nat.le_of_ble_eq_true rfl, Nat.le_of_ble_eq_true rfl⟩) ⟨pcW.blind, (pcW.mk hP hD hS hA hG hT [] rfl (by decide))⟩ rfl rfl hlv.1 rfl (lv_room (Nat.le_of_ble_eq_true rfl)) dX11_beginText_10 ⟨Nat.le_of_ble_eq_true rfl, Nat.le_of_ble_eq_true rfl⟩) hP hD hS hA [] [0, 1] rfl rfl (by decide) (by decide) (fun r1 u1 H locs hw1 hP hD hS => ?_)
  rcases hw1 with ⟨hg1, rfl⟩ | ⟨hg1, rfl⟩
  · have hP : va_P D vwCl [(ko, .inr (11, [.ref (ka 0), .ref (ka 1), .ref (ka 2), .int 0, .int 0, .ref (ka 5), .ref (ka 6), .ref (ka 7), .ref (ka 8), .ref (ka 9), .int 0, .ref (ka 11), .ref (ka 12), .ref (ka 13)])), ((ka 0), .inr (8, [.ref (ka 20), .int 0, .int 0, .int 0, .int 0, .int 0, .int (-1)]))] H := hP
    have hD : va_D A [(ko, .inr (11, [.ref (ka 0), .ref (ka 1), .ref (ka 2), .int 0, .int 0, .ref (ka 5), .ref (ka 6), .ref (ka 7), .ref (ka 8), .ref (ka 9), .int 0, .ref (ka 11), .ref (ka 12), .ref (ka 13)])), ((ka 0), .inr (8, [.ref (ka 20), .int 0, .int 0, .int 0, .int 0, .int 0, .int (-1)]))] := hD
    refine cj_v (wr := [(ko, .inr (11, [.ref (ka 0), .ref (ka 1), .ref (ka 2), .int 0, .int 0, .ref (ka 5), .ref (ka 6), .ref (ka 7), .ref (ka 8), .ref (ka 9), .int 0, .ref (ka 11), .ref (ka 12), .ref (ka 13)])), ((ka 0), .inr (8, [.ref (ka 20), .int 0, .int 0, .int 0, .int 0, .int 0, .int (-1)]))]) (va_runV (As := [.int 1]) (rest := []) ⟨hx, hb, hml, hown, hts⟩ (c_needArgument1 l hl D cy sa ko H.size) (cwV 1 hts gX11_beginText_X11_needArgument rfl rfl rfl (by decide +kernel) ⟨Nat.le_of_ble_eq_true rfl, Nat.le_of_ble_eq_true rfl⟩) ⟨pcW.blind, (va_recv hG.1 hP (ci := 11) (q0 := 0) rfl rfl), (pcW.mk hP hD hS hA hG hT [] rfl (by decide))⟩ rfl rfl hlv.1 rfl (lv_room (Nat.le_of_ble_eq_true rfl)) dX11_beginText_13 ⟨Nat.le_of_ble_eq_true rfl, Nat.le_of_ble_eq_true rfl⟩) hP hD hS hA [] [0, 1] rfl rfl (by decide) (by decide) (fun u2 H locs hw2 hP hD hS => ?_)
    have hP : va_P D vwCl [(ko, .inr (11, [.ref (ka 0), .ref (ka 1), .ref (ka 2), .int 0, .int 0, .ref (ka 5), .ref (ka 6), .ref (ka 7), .ref (ka 8), .ref (ka 9), .int 0, .ref (ka 11), .ref (ka 12), .ref (ka 13)])), ((ka 0), .inr (8, [.ref (ka 20), .int 0, .int 0, .int 0, .int 0, .int 0, .int (-1)]))] H := hP
    have hD : va_D A [(ko, .inr (11, [.ref (ka 0), .ref (ka 1), .ref (ka 2), .int 0, .int 0, .ref (ka 5), .ref (ka 6), .ref (ka 7), .ref (ka 8), .ref (ka 9), .int 0, .ref (ka 11), .ref (ka 12), .ref (ka 13)])), ((ka 0), .inr (8, [.ref (ka 20), .int 0, .int 0, .int 0, .int 0, .int 0, .int (-1)]))] := hD
    refine lv_aload_n hx hb dX11_beginText_16 rfl (lv_at hlv 0 rfl) ?_
    refine va_get (D := D) (ci := 11) (v := .ref (ka 0)) (C := RX11) (T := TX11) (N := 14) hx hb hts hi11 hown hG.1 hP 0 rfl rfl 0 (by decide) lf10 (fun _ h9 => h9) rfl dX11_beginText_17 ?_
    refine lv_iload_n hx hb dX11_beginText_20 rfl (lv_at hlv 1 rfl) ?_
    refine cj_v (wr := [(ko, .inr (11, [.ref (ka 0), .ref (ka 1), .ref (ka 2), .int 0, .int 0, .ref (ka 5), .ref (ka 6), .ref (ka 7), .ref (ka 8), .ref (ka 9), .int 0, .ref (ka 11), .ref (ka 12), .ref (ka 13)]))]) (va_runVN (host := "KerbSplash") (As := [.int 0]) (rest := []) ⟨hx, hb, hml, hown, hts⟩ (c_begin l hl D cy sa ka H.size) ⟨va_cnB 1 hts gX11_beginText_X8_begin_n345 rfl rfl rfl (nM_K_345 hG.2.1) ini_RX8 (by decide +kernel) ⟨Nat.le_of_ble_eq_true rfl, Nat.le_of_ble_eq_true rfl⟩, im_X8_begin, se_X8_begin⟩ ⟨pcW.blind, (va_recv hG.1 hP (ci := 8) (q0 := 1) rfl rfl), (pcW.mk hP hD hS hA hG hT [1] rfl (by decide))⟩ rfl rfl hlv.1 rfl (lv_room (Nat.le_of_ble_eq_true rfl)) dX11_beginText_21 ⟨Nat.le_of_ble_eq_true rfl, Nat.le_of_ble_eq_true rfl⟩) hP hD hS hA [1] [0] rfl rfl (by decide) (by decide) (fun u3 H locs hw3 hP hD hS => ?_)
    have hP : va_P D vwCl [(ko, .inr (11, [.ref (ka 0), .ref (ka 1), .ref (ka 2), .int 0, .int 0, .ref (ka 5), .ref (ka 6), .ref (ka 7), .ref (ka 8), .ref (ka 9), .int 0, .ref (ka 11), .ref (ka 12), .ref (ka 13)])), ((ka 0), .inr (8, [.ref (ka 20), .int 0, .int 0, .int 0, .int 0, .int 0, .int (-1)]))] H := hP
    have hD : va_D A [(ko, .inr (11, [.ref (ka 0), .ref (ka 1), .ref (ka 2), .int 0, .int 0, .ref (ka 5), .ref (ka 6), .ref (ka 7), .ref (ka 8), .ref (ka 9), .int 0, .ref (ka 11), .ref (ka 12), .ref (ka 13)])), ((ka 0), .inr (8, [.ref (ka 20), .int 0, .int 0, .int 0, .int 0, .int 0, .int (-1)]))] := hD
    refine W.widen (k := 0) (n := 0) (Nat.le_of_ble_eq_true rfl) (Nat.le_of_ble_eq_true rfl) ?_
    exact W.vret hx hb hr (fun t ht hW => ⟨⟨((fun k => ([] : List Nat).getD k 0), (fun k => ([] : List Int32).getD k 0), (fun k => ([] : List (Nat → Int32)).getD k (fun _ => 0))), rfl, (by first | (trivial)), by rw [ht]; exact hP.sub [0, 1] rfl, hD.sub [0, 1] (by decide) rfl⟩, hS.F ht⟩) hS.2.2 dX11_beginText_24
  · exact absurd hg1 (fun q => absurd (by decide) q)
set_option maxHeartbeats 4000000 in
set_option maxRecDepth 100000 in
theorem c_beginTextx (l : Launch) (hl : l.stackTraces = false) (D : va_G) (cy : Nat → ClassId) (sa : Nat → Nat) (ko : Nat) (ka : Nat → Nat) (n : Int32) (sz : Nat) (hn : ¬ (0 ≤ n ∧ n ≤ 0)) : vx_Met l yX11_beginText wsX11_beginText ({ frames := 7, cells := 1, slots := 6, locals := 121 }) (va_Pc [.ref ko, .int n] (pcW D cy sa sz [(ko, .inr (11, [.ref (ka 0), .ref (ka 1), .ref (ka 2), .int 0, .int 0, .ref (ka 5), .ref (ka 6), .ref (ka 7), .ref (ka 8), .ref (ka 9), .int 0, .ref (ka 11), .ref (ka 12), .ref (ka 13)])), ((ka 0), .inr (8, [.ref (ka 20), .int 0, .int 0, .int 0, .int 0, .int 0, .int (-1)])), ((ka 13), .inl (cy 0, 4, .inl (fun _ => 0)))])) (va_Qv (fun u : SU => False) (fun u t => atW D (va_A [(ko, .inr (11, [.ref (ka 0), .ref (ka 1), .ref (ka 2), .int 0, .int 0, .ref (ka 5), .ref (ka 6), .ref (ka 7), .ref (ka 8), .ref (ka 9), .int 0, .ref (ka 11), .ref (ka 12), .ref (ka 13)])), ((ka 0), .inr (8, [.ref (ka 20), .int 0, .int 0, .int 0, .int 0, .int 0, .int (-1)])), ((ka 13), .inl (cy 0, 4, .inl (fun _ => 0)))] sz) [] t) (va_A [(ko, .inr (11, [.ref (ka 0), .ref (ka 1), .ref (ka 2), .int 0, .int 0, .ref (ka 5), .ref (ka 6), .ref (ka 7), .ref (ka 8), .ref (ka 9), .int 0, .ref (ka 11), .ref (ka 12), .ref (ka 13)])), ((ka 0), .inr (8, [.ref (ka 20), .int 0, .int 0, .int 0, .int 0, .int 0, .int (-1)])), ((ka 13), .inl (cy 0, 4, .inl (fun _ => 0)))] sz)) (xcW (fun E => (E = "java/lang/IllegalArgumentException" ∧ (True))) (va_A [(ko, .inr (11, [.ref (ka 0), .ref (ka 1), .ref (ka 2), .int 0, .int 0, .ref (ka 5), .ref (ka 6), .ref (ka 7), .ref (ka 8), .ref (ka 9), .int 0, .ref (ka 11), .ref (ka 12), .ref (ka 13)])), ((ka 0), .inr (8, [.ref (ka 20), .int 0, .int 0, .int 0, .int 0, .int 0, .int (-1)])), ((ka 13), .inl (cy 0, 4, .inl (fun _ => 0)))] sz)) 1 6 (va_A [(ko, .inr (11, [.ref (ka 0), .ref (ka 1), .ref (ka 2), .int 0, .int 0, .ref (ka 5), .ref (ka 6), .ref (ka 7), .ref (ka 8), .ref (ka 9), .int 0, .ref (ka 11), .ref (ka 12), .ref (ka 13)])), ((ka 0), .inr (8, [.ref (ka 20), .int 0, .int 0, .int 0, .int 0, .int 0, .int (-1)])), ((ka 13), .inl (cy 0, 4, .inl (fun _ => 0)))] sz) := by
  refine vx_ofW (cc := cX11_beginText) (maxL := 2) (ret := none) (by decide) rfl ?_
  intro p e s m args below meth c s₁ B hml hex hv
  obtain ⟨rfl, hsz, hP, hG, hD0, hT⟩ := hv
  have hx := B.exec
  have hb := B.bytes
  have hr := B.returns
  have hts := atoms_spec (ws := wsX11_beginText) B.pre
  have hown : s.vm.findClass RX11 = some m.cls := findClass_of_methodNamed B.named
  have hlocks := B.notSynchronized
  subst hsz
  have hD := hD0.self (sz := s.heap.size)
  generalize hAe : va_A [(ko, .inr (11, [.ref (ka 0), .ref (ka 1), .ref (ka 2), .int 0, .int 0, .ref (ka 5), .ref (ka 6), .ref (ka 7), .ref (ka 8), .ref (ka 9), .int 0, .ref (ka 11), .ref (ka 12), .ref (ka 13)])), ((ka 0), .inr (8, [.ref (ka 20), .int 0, .int 0, .int 0, .int 0, .int 0, .int (-1)])), ((ka 13), .inl (cy 0, 4, .inl (fun _ => 0)))] s.heap.size = A at hD hT ⊢
  have hA : ∀ q : Nat, s.heap.size ≤ q → A q := fun q h => by rw [← hAe]; exact Or.inr h
  have hS : va_S A s.heap s.heap [] := va_S.rf
  have hl0 := lv_entry ([.ref ko, .int n]) (n := 2) (Nat.le_of_ble_eq_true rfl)
  rw [lg_entry_eq]
  generalize (lg_sl ([.ref ko, .int n]) ++ List.replicate (2 - (lg_sl ([.ref ko, .int n])).length) Slot.unset).toArray = ls at hl0 ⊢
  have hlv : lv_has ls 2 [(0, .ref ko), (1, .int n)] := hl0
  have lf10 := hts (.fieldLink RX11 10 "KerbSplash" "tape" "LKerbSplash$Tape;") (by decide +kernel)
  have hi11 : ∀ w ∈ wsX110, w ∈ wsX11_beginText := by decide +kernel
  have hi8 : ∀ w ∈ wsX80, w ∈ wsX11_beginText := by decide +kernel
  refine lv_aload_n hx hb dX11_beginText_0 rfl (lv_at hlv 0 rfl) ?_
  refine lv_iload_n hx hb dX11_beginText_1 rfl (lv_at hlv 1 rfl) ?_
  refine lv_iconst (v := 0) hx hb dX11_beginText_2 (by decide) ?_
  refine lv_aload_n hx hb dX11_beginText_3 rfl (lv_at hlv 0 rfl) ?_
  refine va_get (D := D) (ci := 11) (v := .ref (ka 0)) (C := RX11) (T := TX11) (N := 14) hx hb hts hi11 hown hG.1 hP 0 rfl rfl 0 (by decide) lf10 (fun _ h9 => h9) rfl dX11_beginText_4 ?_
  refine va_getN (D := D) (ci := 8) (v := .int 0) (C := RX8) (T := TX8) (N := 7) hx hb hts hi8 hown hG.1 hP 1 rfl rfl 1 (by decide) (va_Nw.use rfl (nF_K_81 hG.2.1)) (fun _ h9 => h9) rfl dX11_beginText_7 ?_
  refine cj_i (wr := [(ko, .inr (11, [.ref (ka 0), .ref (ka 1), .ref (ka 2), .int 0, .int 0, .ref (ka 5), .ref (ka 6), .ref (ka 7), .ref (ka 8), .ref (ka 9), .int 0, .ref (ka 11), .ref (ka 12), .ref (ka 13)])), ((ka 0), .inr (8, [.ref (ka 20), .int 0, .int 0, .int 0, .int 0, .int 0, .int (-1)])), ((ka 13), .inl (cy 0, 4, .inl (fun _ => 0)))]) (va_runS (As := [.int n, .int 0, .int 0]) (rest := [.ref ko]) ⟨hx, hb, hml, hown, hts⟩ (c_isWithin l hl D cy sa n 0 0 s.heap.size) (va_cwS 3 hts gX11_beginText_X11_isWithin rfl rfl rfl (by decide +kernel) ⟨Nat.le_of_ble_eq_true rfl, Nat.le_of_ble_eq_true rfl⟩) ⟨pcW.blind, (pcW.mk hP hD hS hA hG hT [] rfl (by decide))⟩ rfl rfl hlv.1 rfl (lv_room (Nat.le_of_ble_eq_true rfl)) dX11_beginText_10 ⟨Nat.le_of_ble_eq_true rfl, Nat.le_of_ble_eq_true rfl⟩) hP hD hS hA [] [0, 1, 2] rfl rfl (by decide) (by decide) (fun r1 u1 H locs hw1 hP hD hS => ?_)
  rcases hw1 with ⟨hg1, rfl⟩ | ⟨hg1, rfl⟩
  · exact absurd hg1 hn
  · have hP : va_P D vwCl [(ko, .inr (11, [.ref (ka 0), .ref (ka 1), .ref (ka 2), .int 0, .int 0, .ref (ka 5), .ref (ka 6), .ref (ka 7), .ref (ka 8), .ref (ka 9), .int 0, .ref (ka 11), .ref (ka 12), .ref (ka 13)])), ((ka 0), .inr (8, [.ref (ka 20), .int 0, .int 0, .int 0, .int 0, .int 0, .int (-1)])), ((ka 13), .inl (cy 0, 4, .inl (fun _ => 0)))] H := hP
    have hD : va_D A [(ko, .inr (11, [.ref (ka 0), .ref (ka 1), .ref (ka 2), .int 0, .int 0, .ref (ka 5), .ref (ka 6), .ref (ka 7), .ref (ka 8), .ref (ka 9), .int 0, .ref (ka 11), .ref (ka 12), .ref (ka 13)])), ((ka 0), .inr (8, [.ref (ka 20), .int 0, .int 0, .int 0, .int 0, .int 0, .int (-1)])), ((ka 13), .inl (cy 0, 4, .inl (fun _ => 0)))] := hD
    refine cjx_v (wr := [((ka 0), .inr (8, [.ref (ka 20), .int 0, .int 0, .int 0, .int 0, .int 0, .int (-1)]))]) (vx_runV (As := [.int 0]) (rest := []) ⟨hx, hb, hml, hown, hts⟩ (c_needArgument0 l hl D cy sa ko ka H.size) (cwV 1 hts gX11_beginText_X11_needArgument rfl rfl rfl (by decide +kernel) ⟨Nat.le_of_ble_eq_true rfl, Nat.le_of_ble_eq_true rfl⟩) ⟨pcW.blind, (va_recv hG.1 hP (ci := 11) (q0 := 0) rfl rfl), (pcW.mk hP hD hS hA hG hT [0, 2] rfl (by decide))⟩ rfl rfl hlv.1 rfl (lv_room (Nat.le_of_ble_eq_true rfl)) dX11_beginText_13 ⟨Nat.le_of_ble_eq_true rfl, Nat.le_of_ble_eq_true rfl⟩) hP hD hS hA [0, 2] [1] rfl rfl (by decide) (by decide) (fun E ce q9 H locs hp hP hD hS h1 h2 h3 => ?_) (fun u2 H locs hw2 hP hD hS => ?_)
    · obtain ⟨rfl, hg2⟩ := hp
      exact vx_out (fun x h => (hex x h).elim) hlocks h1 h2 h3 (fun t ht hvm => ⟨(), trivial, (by exact ⟨rfl, trivial⟩), hS.F ht⟩) hS.2.2 (Nat.le_of_ble_eq_true rfl) (Nat.le_of_ble_eq_true rfl)
    · exact (hw2).elim
set_option maxHeartbeats 4000000 in
set_option maxRecDepth 100000 in
theorem c_streetx (l : Launch) (hl : l.stackTraces = false) (D : va_G) (cy : Nat → ClassId) (sa : Nat → Nat) (ko : Nat) (ka : Nat → Nat) (n : Int32) (sz : Nat) (hn : ¬ (0 ≤ n ∧ n ≤ 0)) : vx_Met l yX11_street wsX11_street ({ frames := 8, cells := 1, slots := 6, locals := 142 }) (va_Pc [.ref ko, .int n] (pcW D cy sa sz [(ko, .inr (11, [.ref (ka 0), .ref (ka 1), .ref (ka 2), .int 0, .int 0, .ref (ka 5), .ref (ka 6), .ref (ka 7), .ref (ka 8), .ref (ka 9), .int 0, .ref (ka 11), .ref (ka 12), .ref (ka 13)])), ((ka 0), .inr (8, [.ref (ka 20), .int 0, .int 0, .int 0, .int 0, .int 0, .int (-1)])), ((ka 13), .inl (cy 0, 4, .inl (fun _ => 0)))])) (va_Qi (fun (r : Int32) (u : SU) => False) (fun u t => atW D (va_A [(ko, .inr (11, [.ref (ka 0), .ref (ka 1), .ref (ka 2), .int 0, .int 0, .ref (ka 5), .ref (ka 6), .ref (ka 7), .ref (ka 8), .ref (ka 9), .int 0, .ref (ka 11), .ref (ka 12), .ref (ka 13)])), ((ka 0), .inr (8, [.ref (ka 20), .int 0, .int 0, .int 0, .int 0, .int 0, .int (-1)])), ((ka 13), .inl (cy 0, 4, .inl (fun _ => 0)))] sz) [] t) (va_A [(ko, .inr (11, [.ref (ka 0), .ref (ka 1), .ref (ka 2), .int 0, .int 0, .ref (ka 5), .ref (ka 6), .ref (ka 7), .ref (ka 8), .ref (ka 9), .int 0, .ref (ka 11), .ref (ka 12), .ref (ka 13)])), ((ka 0), .inr (8, [.ref (ka 20), .int 0, .int 0, .int 0, .int 0, .int 0, .int (-1)])), ((ka 13), .inl (cy 0, 4, .inl (fun _ => 0)))] sz)) (xcW (fun E => (E = "java/lang/IllegalArgumentException" ∧ (True))) (va_A [(ko, .inr (11, [.ref (ka 0), .ref (ka 1), .ref (ka 2), .int 0, .int 0, .ref (ka 5), .ref (ka 6), .ref (ka 7), .ref (ka 8), .ref (ka 9), .int 0, .ref (ka 11), .ref (ka 12), .ref (ka 13)])), ((ka 0), .inr (8, [.ref (ka 20), .int 0, .int 0, .int 0, .int 0, .int 0, .int (-1)])), ((ka 13), .inl (cy 0, 4, .inl (fun _ => 0)))] sz)) 1 6 (va_A [(ko, .inr (11, [.ref (ka 0), .ref (ka 1), .ref (ka 2), .int 0, .int 0, .ref (ka 5), .ref (ka 6), .ref (ka 7), .ref (ka 8), .ref (ka 9), .int 0, .ref (ka 11), .ref (ka 12), .ref (ka 13)])), ((ka 0), .inr (8, [.ref (ka 20), .int 0, .int 0, .int 0, .int 0, .int 0, .int (-1)])), ((ka 13), .inl (cy 0, 4, .inl (fun _ => 0)))] sz) := by
  refine vx_ofW (cc := cX11_street) (maxL := 3) (ret := (some .int)) (by decide) rfl ?_
  intro p e s m args below meth c s₁ B hml hex hv
  obtain ⟨rfl, hsz, hP, hG, hD0, hT⟩ := hv
  have hx := B.exec
  have hb := B.bytes
  have hr := B.returns
  have hts := atoms_spec (ws := wsX11_street) B.pre
  have hown : s.vm.findClass RX11 = some m.cls := findClass_of_methodNamed B.named
  have hlocks := B.notSynchronized
  subst hsz
  have hD := hD0.self (sz := s.heap.size)
  generalize hAe : va_A [(ko, .inr (11, [.ref (ka 0), .ref (ka 1), .ref (ka 2), .int 0, .int 0, .ref (ka 5), .ref (ka 6), .ref (ka 7), .ref (ka 8), .ref (ka 9), .int 0, .ref (ka 11), .ref (ka 12), .ref (ka 13)])), ((ka 0), .inr (8, [.ref (ka 20), .int 0, .int 0, .int 0, .int 0, .int 0, .int (-1)])), ((ka 13), .inl (cy 0, 4, .inl (fun _ => 0)))] s.heap.size = A at hD hT ⊢
  have hA : ∀ q : Nat, s.heap.size ≤ q → A q := fun q h => by rw [← hAe]; exact Or.inr h
  have hS : va_S A s.heap s.heap [] := va_S.rf
  have hl0 := lv_entry ([.ref ko, .int n]) (n := 3) (Nat.le_of_ble_eq_true rfl)
  rw [lg_entry_eq]
  generalize (lg_sl ([.ref ko, .int n]) ++ List.replicate (3 - (lg_sl ([.ref ko, .int n])).length) Slot.unset).toArray = ls at hl0 ⊢
  have hlv : lv_has ls 3 [(0, .ref ko), (1, .int n)] := hl0
  refine lv_aload_n hx hb dX11_street_0 rfl (lv_at hlv 0 rfl) ?_
  refine lv_iload_n hx hb dX11_street_1 rfl (lv_at hlv 1 rfl) ?_
  refine cjx_v (wr := []) (vx_runV (As := [.int n]) (rest := []) ⟨hx, hb, hml, hown, hts⟩ (c_beginTextx l hl D cy sa ko ka n s.heap.size hn) (cwV 1 hts gX11_street_X11_beginText rfl rfl rfl (by decide +kernel) ⟨Nat.le_of_ble_eq_true rfl, Nat.le_of_ble_eq_true rfl⟩) ⟨pcW.blind, (va_recv hG.1 hP (ci := 11) (q0 := 0) rfl rfl), (pcW.mk hP hD hS hA hG hT [0, 1, 2] rfl (by decide))⟩ rfl rfl hlv.1 rfl (lv_room (Nat.le_of_ble_eq_true rfl)) dX11_street_2 ⟨Nat.le_of_ble_eq_true rfl, Nat.le_of_ble_eq_true rfl⟩) hP hD hS hA [0, 1, 2] [] rfl rfl (by decide) (by decide) (fun E ce q9 H locs hp hP hD hS h1 h2 h3 => ?_) (fun u1 H locs hw1 hP hD hS => ?_)
  · obtain ⟨rfl, hg1⟩ := hp
    exact vx_out (fun x h => (hex x h).elim) hlocks h1 h2 h3 (fun t ht hvm => ⟨(), trivial, (by exact ⟨rfl, trivial⟩), hS.F ht⟩) hS.2.2 (Nat.le_of_ble_eq_true rfl) (Nat.le_of_ble_eq_true rfl)
  · exact (hw1).elim
set_option maxHeartbeats 4000000 in
set_option maxRecDepth 100000 in
theorem c_rainx (l : Launch) (hl : l.stackTraces = false) (D : va_G) (cy : Nat → ClassId) (sa : Nat → Nat) (ko : Nat) (ka : Nat → Nat) (n : Int32) (sz : Nat) (hn : ¬ (0 ≤ n ∧ n ≤ 0)) : vx_Met l yX11_rain wsX11_rain ({ frames := 8, cells := 1, slots := 6, locals := 142 }) (va_Pc [.ref ko, .int n] (pcW D cy sa sz [(ko, .inr (11, [.ref (ka 0), .ref (ka 1), .ref (ka 2), .int 0, .int 0, .ref (ka 5), .ref (ka 6), .ref (ka 7), .ref (ka 8), .ref (ka 9), .int 0, .ref (ka 11), .ref (ka 12), .ref (ka 13)])), ((ka 0), .inr (8, [.ref (ka 20), .int 0, .int 0, .int 0, .int 0, .int 0, .int (-1)])), ((ka 13), .inl (cy 0, 4, .inl (fun _ => 0)))])) (va_Qi (fun (r : Int32) (u : SU) => False) (fun u t => atW D (va_A [(ko, .inr (11, [.ref (ka 0), .ref (ka 1), .ref (ka 2), .int 0, .int 0, .ref (ka 5), .ref (ka 6), .ref (ka 7), .ref (ka 8), .ref (ka 9), .int 0, .ref (ka 11), .ref (ka 12), .ref (ka 13)])), ((ka 0), .inr (8, [.ref (ka 20), .int 0, .int 0, .int 0, .int 0, .int 0, .int (-1)])), ((ka 13), .inl (cy 0, 4, .inl (fun _ => 0)))] sz) [] t) (va_A [(ko, .inr (11, [.ref (ka 0), .ref (ka 1), .ref (ka 2), .int 0, .int 0, .ref (ka 5), .ref (ka 6), .ref (ka 7), .ref (ka 8), .ref (ka 9), .int 0, .ref (ka 11), .ref (ka 12), .ref (ka 13)])), ((ka 0), .inr (8, [.ref (ka 20), .int 0, .int 0, .int 0, .int 0, .int 0, .int (-1)])), ((ka 13), .inl (cy 0, 4, .inl (fun _ => 0)))] sz)) (xcW (fun E => (E = "java/lang/IllegalArgumentException" ∧ (True))) (va_A [(ko, .inr (11, [.ref (ka 0), .ref (ka 1), .ref (ka 2), .int 0, .int 0, .ref (ka 5), .ref (ka 6), .ref (ka 7), .ref (ka 8), .ref (ka 9), .int 0, .ref (ka 11), .ref (ka 12), .ref (ka 13)])), ((ka 0), .inr (8, [.ref (ka 20), .int 0, .int 0, .int 0, .int 0, .int 0, .int (-1)])), ((ka 13), .inl (cy 0, 4, .inl (fun _ => 0)))] sz)) 1 6 (va_A [(ko, .inr (11, [.ref (ka 0), .ref (ka 1), .ref (ka 2), .int 0, .int 0, .ref (ka 5), .ref (ka 6), .ref (ka 7), .ref (ka 8), .ref (ka 9), .int 0, .ref (ka 11), .ref (ka 12), .ref (ka 13)])), ((ka 0), .inr (8, [.ref (ka 20), .int 0, .int 0, .int 0, .int 0, .int 0, .int (-1)])), ((ka 13), .inl (cy 0, 4, .inl (fun _ => 0)))] sz) := by
  refine vx_ofW (cc := cX11_rain) (maxL := 2) (ret := (some .int)) (by decide) rfl ?_
  intro p e s m args below meth c s₁ B hml hex hv
  obtain ⟨rfl, hsz, hP, hG, hD0, hT⟩ := hv
  have hx := B.exec
  have hb := B.bytes
  have hr := B.returns
  have hts := atoms_spec (ws := wsX11_rain) B.pre
  have hown : s.vm.findClass RX11 = some m.cls := findClass_of_methodNamed B.named
  have hlocks := B.notSynchronized
  subst hsz
  have hD := hD0.self (sz := s.heap.size)
  generalize hAe : va_A [(ko, .inr (11, [.ref (ka 0), .ref (ka 1), .ref (ka 2), .int 0, .int 0, .ref (ka 5), .ref (ka 6), .ref (ka 7), .ref (ka 8), .ref (ka 9), .int 0, .ref (ka 11), .ref (ka 12), .ref (ka 13)])), ((ka 0), .inr (8, [.ref (ka 20), .int 0, .int 0, .int 0, .int 0, .int 0, .int (-1)])), ((ka 13), .inl (cy 0, 4, .inl (fun _ => 0)))] s.heap.size = A at hD hT ⊢
  have hA : ∀ q : Nat, s.heap.size ≤ q → A q := fun q h => by rw [← hAe]; exact Or.inr h
  have hS : va_S A s.heap s.heap [] := va_S.rf
  have hl0 := lv_entry ([.ref ko, .int n]) (n := 2) (Nat.le_of_ble_eq_true rfl)
  rw [lg_entry_eq]
  generalize (lg_sl ([.ref ko, .int n]) ++ List.replicate (2 - (lg_sl ([.ref ko, .int n])).length) Slot.unset).toArray = ls at hl0 ⊢
  have hlv : lv_has ls 2 [(0, .ref ko), (1, .int n)] := hl0
  refine lv_aload_n hx hb dX11_rain_0 rfl (lv_at hlv 0 rfl) ?_
  refine lv_iload_n hx hb dX11_rain_1 rfl (lv_at hlv 1 rfl) ?_
  refine cjx_v (wr := []) (vx_runV (As := [.int n]) (rest := []) ⟨hx, hb, hml, hown, hts⟩ (c_beginTextx l hl D cy sa ko ka n s.heap.size hn) (cwV 1 hts gX11_rain_X11_beginText rfl rfl rfl (by decide +kernel) ⟨Nat.le_of_ble_eq_true rfl, Nat.le_of_ble_eq_true rfl⟩) ⟨pcW.blind, (va_recv hG.1 hP (ci := 11) (q0 := 0) rfl rfl), (pcW.mk hP hD hS hA hG hT [0, 1, 2] rfl (by decide))⟩ rfl rfl hlv.1 rfl (lv_room (Nat.le_of_ble_eq_true rfl)) dX11_rain_2 ⟨Nat.le_of_ble_eq_true rfl, Nat.le_of_ble_eq_true rfl⟩) hP hD hS hA [0, 1, 2] [] rfl rfl (by decide) (by decide) (fun E ce q9 H locs hp hP hD hS h1 h2 h3 => ?_) (fun u1 H locs hw1 hP hD hS => ?_)
  · obtain ⟨rfl, hg1⟩ := hp
    exact vx_out (fun x h => (hex x h).elim) hlocks h1 h2 h3 (fun t ht hvm => ⟨(), trivial, (by exact ⟨rfl, trivial⟩), hS.F ht⟩) hS.2.2 (Nat.le_of_ble_eq_true rfl) (Nat.le_of_ble_eq_true rfl)
  · exact (hw1).elim
set_option maxHeartbeats 4000000 in
set_option maxRecDepth 100000 in
theorem c_lawx (l : Launch) (hl : l.stackTraces = false) (D : va_G) (cy : Nat → ClassId) (sa : Nat → Nat) (ko : Nat) (ka : Nat → Nat) (n : Int32) (sz : Nat) (hn : ¬ (0 ≤ n ∧ n ≤ 0)) : vx_Met l yX11_law wsX11_law ({ frames := 8, cells := 1, slots := 6, locals := 142 }) (va_Pc [.ref ko, .int n] (pcW D cy sa sz [(ko, .inr (11, [.ref (ka 0), .ref (ka 1), .ref (ka 2), .int 0, .int 0, .ref (ka 5), .ref (ka 6), .ref (ka 7), .ref (ka 8), .ref (ka 9), .int 0, .ref (ka 11), .ref (ka 12), .ref (ka 13)])), ((ka 0), .inr (8, [.ref (ka 20), .int 0, .int 0, .int 0, .int 0, .int 0, .int (-1)])), ((ka 13), .inl (cy 0, 4, .inl (fun _ => 0)))])) (va_Qi (fun (r : Int32) (u : SU) => False) (fun u t => atW D (va_A [(ko, .inr (11, [.ref (ka 0), .ref (ka 1), .ref (ka 2), .int 0, .int 0, .ref (ka 5), .ref (ka 6), .ref (ka 7), .ref (ka 8), .ref (ka 9), .int 0, .ref (ka 11), .ref (ka 12), .ref (ka 13)])), ((ka 0), .inr (8, [.ref (ka 20), .int 0, .int 0, .int 0, .int 0, .int 0, .int (-1)])), ((ka 13), .inl (cy 0, 4, .inl (fun _ => 0)))] sz) [] t) (va_A [(ko, .inr (11, [.ref (ka 0), .ref (ka 1), .ref (ka 2), .int 0, .int 0, .ref (ka 5), .ref (ka 6), .ref (ka 7), .ref (ka 8), .ref (ka 9), .int 0, .ref (ka 11), .ref (ka 12), .ref (ka 13)])), ((ka 0), .inr (8, [.ref (ka 20), .int 0, .int 0, .int 0, .int 0, .int 0, .int (-1)])), ((ka 13), .inl (cy 0, 4, .inl (fun _ => 0)))] sz)) (xcW (fun E => (E = "java/lang/IllegalArgumentException" ∧ (True))) (va_A [(ko, .inr (11, [.ref (ka 0), .ref (ka 1), .ref (ka 2), .int 0, .int 0, .ref (ka 5), .ref (ka 6), .ref (ka 7), .ref (ka 8), .ref (ka 9), .int 0, .ref (ka 11), .ref (ka 12), .ref (ka 13)])), ((ka 0), .inr (8, [.ref (ka 20), .int 0, .int 0, .int 0, .int 0, .int 0, .int (-1)])), ((ka 13), .inl (cy 0, 4, .inl (fun _ => 0)))] sz)) 1 6 (va_A [(ko, .inr (11, [.ref (ka 0), .ref (ka 1), .ref (ka 2), .int 0, .int 0, .ref (ka 5), .ref (ka 6), .ref (ka 7), .ref (ka 8), .ref (ka 9), .int 0, .ref (ka 11), .ref (ka 12), .ref (ka 13)])), ((ka 0), .inr (8, [.ref (ka 20), .int 0, .int 0, .int 0, .int 0, .int 0, .int (-1)])), ((ka 13), .inl (cy 0, 4, .inl (fun _ => 0)))] sz) := by
  refine vx_ofW (cc := cX11_law) (maxL := 2) (ret := (some .int)) (by decide) rfl ?_
  intro p e s m args below meth c s₁ B hml hex hv
  obtain ⟨rfl, hsz, hP, hG, hD0, hT⟩ := hv
  have hx := B.exec
  have hb := B.bytes
  have hr := B.returns
  have hts := atoms_spec (ws := wsX11_law) B.pre
  have hown : s.vm.findClass RX11 = some m.cls := findClass_of_methodNamed B.named
  have hlocks := B.notSynchronized
  subst hsz
  have hD := hD0.self (sz := s.heap.size)
  generalize hAe : va_A [(ko, .inr (11, [.ref (ka 0), .ref (ka 1), .ref (ka 2), .int 0, .int 0, .ref (ka 5), .ref (ka 6), .ref (ka 7), .ref (ka 8), .ref (ka 9), .int 0, .ref (ka 11), .ref (ka 12), .ref (ka 13)])), ((ka 0), .inr (8, [.ref (ka 20), .int 0, .int 0, .int 0, .int 0, .int 0, .int (-1)])), ((ka 13), .inl (cy 0, 4, .inl (fun _ => 0)))] s.heap.size = A at hD hT ⊢
  have hA : ∀ q : Nat, s.heap.size ≤ q → A q := fun q h => by rw [← hAe]; exact Or.inr h
  have hS : va_S A s.heap s.heap [] := va_S.rf
  have hl0 := lv_entry ([.ref ko, .int n]) (n := 2) (Nat.le_of_ble_eq_true rfl)
  rw [lg_entry_eq]
  generalize (lg_sl ([.ref ko, .int n]) ++ List.replicate (2 - (lg_sl ([.ref ko, .int n])).length) Slot.unset).toArray = ls at hl0 ⊢
  have hlv : lv_has ls 2 [(0, .ref ko), (1, .int n)] := hl0
  refine lv_aload_n hx hb dX11_law_0 rfl (lv_at hlv 0 rfl) ?_
  refine lv_iload_n hx hb dX11_law_1 rfl (lv_at hlv 1 rfl) ?_
  refine cjx_v (wr := []) (vx_runV (As := [.int n]) (rest := []) ⟨hx, hb, hml, hown, hts⟩ (c_beginTextx l hl D cy sa ko ka n s.heap.size hn) (cwV 1 hts gX11_law_X11_beginText rfl rfl rfl (by decide +kernel) ⟨Nat.le_of_ble_eq_true rfl, Nat.le_of_ble_eq_true rfl⟩) ⟨pcW.blind, (va_recv hG.1 hP (ci := 11) (q0 := 0) rfl rfl), (pcW.mk hP hD hS hA hG hT [0, 1, 2] rfl (by decide))⟩ rfl rfl hlv.1 rfl (lv_room (Nat.le_of_ble_eq_true rfl)) dX11_law_2 ⟨Nat.le_of_ble_eq_true rfl, Nat.le_of_ble_eq_true rfl⟩) hP hD hS hA [0, 1, 2] [] rfl rfl (by decide) (by decide) (fun E ce q9 H locs hp hP hD hS h1 h2 h3 => ?_) (fun u1 H locs hw1 hP hD hS => ?_)
  · obtain ⟨rfl, hg1⟩ := hp
    exact vx_out (fun x h => (hex x h).elim) hlocks h1 h2 h3 (fun t ht hvm => ⟨(), trivial, (by exact ⟨rfl, trivial⟩), hS.F ht⟩) hS.2.2 (Nat.le_of_ble_eq_true rfl) (Nat.le_of_ble_eq_true rfl)
  · exact (hw1).elim
set_option maxHeartbeats 4000000 in
set_option maxRecDepth 100000 in
theorem c_sign (l : Launch) (hl : l.stackTraces = false) (D : va_G) (cy : Nat → ClassId) (sa : Nat → Nat) (ka : Nat → Nat) (sz : Nat) : Met l yX8_sign wsX8_sign ({ frames := 0, cells := 0, slots := 0, locals := 0 }) (va_Pc [.ref (ka 0)] (pcW D cy sa sz [((ka 0), .inr (8, [.ref (ka 20), .int 0, .int 0, .int 0, .int 0, .int 0, .int (-1)]))])) (va_Qi (fun (r : Int32) (u : SU) => (r = (-1))) (fun u t => atW D (va_A [((ka 0), .inr (8, [.ref (ka 20), .int 0, .int 0, .int 0, .int 0, .int 0, .int (-1)]))] sz) [((ka 0), .inr (8, [.ref (ka 20), .int 0, .int 0, .int 0, .int 0, .int 0, .int (-1)]))] t) (va_A [((ka 0), .inr (8, [.ref (ka 20), .int 0, .int 0, .int 0, .int 0, .int 0, .int (-1)]))] sz)) 0 0 (va_A [((ka 0), .inr (8, [.ref (ka 20), .int 0, .int 0, .int 0, .int 0, .int 0, .int (-1)]))] sz) := by
  refine Met.ofW (cc := cX8_sign) (maxL := 1) (ret := (some .int)) (by decide) rfl ?_
  intro p e s m args below meth c s₁ B hml hv
  obtain ⟨rfl, hsz, hP, hG, hD0, hT⟩ := hv
  have hx := B.exec
  have hb := B.bytes
  have hr := B.returns
  have hts := atoms_spec (ws := wsX8_sign) B.pre
  have hown : s.vm.findClass RX8 = some m.cls := findClass_of_methodNamed B.named
  have hlocks := B.notSynchronized
  subst hsz
  have hD := hD0.self (sz := s.heap.size)
  generalize hAe : va_A [((ka 0), .inr (8, [.ref (ka 20), .int 0, .int 0, .int 0, .int 0, .int 0, .int (-1)]))] s.heap.size = A at hD hT ⊢
  have hA : ∀ q : Nat, s.heap.size ≤ q → A q := fun q h => by rw [← hAe]; exact Or.inr h
  have hS : va_S A s.heap s.heap [] := va_S.rf
  have hl0 := lv_entry ([.ref (ka 0)]) (n := 1) (Nat.le_of_ble_eq_true rfl)
  rw [lg_entry_eq]
  generalize (lg_sl ([.ref (ka 0)]) ++ List.replicate (1 - (lg_sl ([.ref (ka 0)])).length) Slot.unset).toArray = ls at hl0 ⊢
  have hlv : lv_has ls 1 [(0, .ref (ka 0))] := hl0
  have lf31 := hts (.fieldLink RX8 31 "KerbSplash$Tape" "fault" "I") (by decide +kernel)
  have hi8 : ∀ w ∈ wsX80, w ∈ wsX8_sign := by decide +kernel
  have lf25 := hts (.fieldLink RX8 25 "KerbSplash$Tape" "at" "I") (by decide +kernel)
  have lf22 := hts (.fieldLink RX8 22 "KerbSplash$Tape" "length" "I") (by decide +kernel)
  refine lv_aload_n hx hb dX8_sign_0 rfl (lv_at hlv 0 rfl) ?_
  refine va_get (D := D) (ci := 8) (v := .int 0) (C := RX8) (T := TX8) (N := 7) hx hb hts hi8 hown hG.1 hP 0 rfl rfl 5 (by decide) lf31 (fun _ h9 => h9) rfl dX8_sign_1 ?_
  refine lv_if_eq (tgt := 9) hx hb dX8_sign_4 (by decide) (fun _ => ?_) (fun c => absurd (by decide) c)
  refine lv_aload_n hx hb dX8_sign_9 rfl (lv_at hlv 0 rfl) ?_
  refine va_get (D := D) (ci := 8) (v := .int 0) (C := RX8) (T := TX8) (N := 7) hx hb hts hi8 hown hG.1 hP 0 rfl rfl 3 (by decide) lf25 (fun _ h9 => h9) rfl dX8_sign_10 ?_
  refine lv_aload_n hx hb dX8_sign_13 rfl (lv_at hlv 0 rfl) ?_
  refine va_get (D := D) (ci := 8) (v := .int 0) (C := RX8) (T := TX8) (N := 7) hx hb hts hi8 hown hG.1 hP 0 rfl rfl 2 (by decide) lf22 (fun _ h9 => h9) rfl dX8_sign_14 ?_
  refine lv_icmp_ge (tgt := 47) hx hb dX8_sign_17 (by decide) (fun _ => ?_) (fun c => absurd (by decide) c)
  refine lv_aload_n hx hb dX8_sign_47 rfl (lv_at hlv 0 rfl) ?_
  refine va_get (D := D) (ci := 8) (v := .int 0) (C := RX8) (T := TX8) (N := 7) hx hb hts hi8 hown hG.1 hP 0 rfl rfl 3 (by decide) lf25 (fun _ h9 => h9) rfl dX8_sign_48 ?_
  refine lv_aload_n hx hb dX8_sign_51 rfl (lv_at hlv 0 rfl) ?_
  refine va_get (D := D) (ci := 8) (v := .int 0) (C := RX8) (T := TX8) (N := 7) hx hb hts hi8 hown hG.1 hP 0 rfl rfl 2 (by decide) lf22 (fun _ h9 => h9) rfl dX8_sign_52 ?_
  refine lv_icmp_ge (tgt := 74) hx hb dX8_sign_55 (by decide) (fun _ => ?_) (fun c => absurd (by decide) c)
  refine lv_iconst (v := (-1)) hx hb dX8_sign_74 (by decide) ?_
  refine W.widen (k := 0) (n := 0) (Nat.le_of_ble_eq_true rfl) (Nat.le_of_ble_eq_true rfl) ?_
  exact W.iret (v := (-1)) hx hb hr (fun t ht hW => ⟨⟨(-1), ((fun k => ([] : List Nat).getD k 0), (fun k => ([] : List Int32).getD k 0), (fun k => ([] : List (Nat → Int32)).getD k (fun _ => 0))), rfl, (by first | (exact (by rfl))), by rw [ht]; exact hP.sub [0] rfl, hD.sub [0] (by decide) rfl⟩, hS.F ht⟩) hS.2.2 dX8_sign_75
set_option maxHeartbeats 4000000 in
set_option maxRecDepth 100000 in
theorem c_hasMore (l : Launch) (hl : l.stackTraces = false) (D : va_G) (cy : Nat → ClassId) (sa : Nat → Nat) (ka : Nat → Nat) (sz : Nat) : Met l yX8_hasMore wsX8_hasMore ({ frames := 1, cells := 0, slots := 0, locals := 20 }) (va_Pc [.ref (ka 0)] (pcW D cy sa sz [((ka 0), .inr (8, [.ref (ka 20), .int 0, .int 0, .int 0, .int 0, .int 0, .int (-1)]))])) (va_Qi (fun (r : Int32) (u : SU) => (r = 0)) (fun u t => atW D (va_A [((ka 0), .inr (8, [.ref (ka 20), .int 0, .int 0, .int 0, .int 0, .int 0, .int (-1)]))] sz) [((ka 0), .inr (8, [.ref (ka 20), .int 0, .int 0, .int 0, .int 0, .int 0, .int (-1)]))] t) (va_A [((ka 0), .inr (8, [.ref (ka 20), .int 0, .int 0, .int 0, .int 0, .int 0, .int (-1)]))] sz)) 0 0 (va_A [((ka 0), .inr (8, [.ref (ka 20), .int 0, .int 0, .int 0, .int 0, .int 0, .int (-1)]))] sz) := by
  refine Met.ofW (cc := cX8_hasMore) (maxL := 1) (ret := (some .boolean)) (by decide) rfl ?_
  intro p e s m args below meth c s₁ B hml hv
  obtain ⟨rfl, hsz, hP, hG, hD0, hT⟩ := hv
  have hx := B.exec
  have hb := B.bytes
  have hr := B.returns
  have hts := atoms_spec (ws := wsX8_hasMore) B.pre
  have hown : s.vm.findClass RX8 = some m.cls := findClass_of_methodNamed B.named
  have hlocks := B.notSynchronized
  subst hsz
  have hD := hD0.self (sz := s.heap.size)
  generalize hAe : va_A [((ka 0), .inr (8, [.ref (ka 20), .int 0, .int 0, .int 0, .int 0, .int 0, .int (-1)]))] s.heap.size = A at hD hT ⊢
  have hA : ∀ q : Nat, s.heap.size ≤ q → A q := fun q h => by rw [← hAe]; exact Or.inr h
  have hS : va_S A s.heap s.heap [] := va_S.rf
  have hl0 := lv_entry ([.ref (ka 0)]) (n := 1) (Nat.le_of_ble_eq_true rfl)
  rw [lg_entry_eq]
  generalize (lg_sl ([.ref (ka 0)]) ++ List.replicate (1 - (lg_sl ([.ref (ka 0)])).length) Slot.unset).toArray = ls at hl0 ⊢
  have hlv : lv_has ls 1 [(0, .ref (ka 0))] := hl0
  refine lv_aload_n hx hb dX8_hasMore_0 rfl (lv_at hlv 0 rfl) ?_
  refine cj_i (wr := []) (va_runV (As := []) (rest := []) ⟨hx, hb, hml, hown, hts⟩ (c_sign l hl D cy sa ka s.heap.size) (cwV 0 hts gX8_hasMore_X8_sign rfl rfl rfl (by decide +kernel) ⟨Nat.le_of_ble_eq_true rfl, Nat.le_of_ble_eq_true rfl⟩) ⟨pcW.blind, (va_recv hG.1 hP (ci := 8) (q0 := 0) rfl rfl), (pcW.mk hP hD hS hA hG hT [0] rfl (by decide))⟩ rfl rfl hlv.1 rfl (lv_room (Nat.le_of_ble_eq_true rfl)) dX8_hasMore_1 ⟨Nat.le_of_ble_eq_true rfl, Nat.le_of_ble_eq_true rfl⟩) hP hD hS hA [0] [] rfl rfl (by decide) (by decide) (fun r1 u1 H locs hw1 hP hD hS => ?_)
  obtain rfl := hw1
  have hP : va_P D vwCl [((ka 0), .inr (8, [.ref (ka 20), .int 0, .int 0, .int 0, .int 0, .int 0, .int (-1)]))] H := hP
  have hD : va_D A [((ka 0), .inr (8, [.ref (ka 20), .int 0, .int 0, .int 0, .int 0, .int 0, .int (-1)]))] := hD
  refine lv_iconst (v := (-1)) hx hb dX8_hasMore_4 (by decide) ?_
  refine lv_icmp_eq (tgt := 12) hx hb dX8_hasMore_5 (by decide) (fun _ => ?_) (fun c => absurd (by decide) c)
  refine lv_iconst (v := 0) hx hb dX8_hasMore_12 (by decide) ?_
  refine W.widen (k := 0) (n := 0) (Nat.le_of_ble_eq_true rfl) (Nat.le_of_ble_eq_true rfl) ?_
  exact W.zret (v := 0) hx hb hr (by first | rfl | decide) (fun t ht hW => ⟨⟨0, ((fun k => ([] : List Nat).getD k 0), (fun k => ([] : List Int32).getD k 0), (fun k => ([] : List (Nat → Int32)).getD k (fun _ => 0))), rfl, (by first | (exact (by rfl))), by rw [ht]; exact hP.sub [0] rfl, hD.sub [0] (by decide) rfl⟩, hS.F ht⟩) hS.2.2 dX8_hasMore_13
set_option maxHeartbeats 4000000 in
set_option maxRecDepth 100000 in
theorem c_good (l : Launch) (hl : l.stackTraces = false) (D : va_G) (cy : Nat → ClassId) (sa : Nat → Nat) (ka : Nat → Nat) (sz : Nat) : Met l yX8_good wsX8_good ({ frames := 0, cells := 0, slots := 0, locals := 0 }) (va_Pc [.ref (ka 0)] (pcW D cy sa sz [((ka 0), .inr (8, [.ref (ka 20), .int 0, .int 0, .int 0, .int 0, .int 0, .int (-1)]))])) (va_Qi (fun (r : Int32) (u : SU) => (r = 1)) (fun u t => atW D (va_A [((ka 0), .inr (8, [.ref (ka 20), .int 0, .int 0, .int 0, .int 0, .int 0, .int (-1)]))] sz) [((ka 0), .inr (8, [.ref (ka 20), .int 0, .int 0, .int 0, .int 0, .int 0, .int (-1)]))] t) (va_A [((ka 0), .inr (8, [.ref (ka 20), .int 0, .int 0, .int 0, .int 0, .int 0, .int (-1)]))] sz)) 0 0 (va_A [((ka 0), .inr (8, [.ref (ka 20), .int 0, .int 0, .int 0, .int 0, .int 0, .int (-1)]))] sz) := by
  refine Met.ofW (cc := cX8_good) (maxL := 1) (ret := (some .boolean)) (by decide) rfl ?_
  intro p e s m args below meth c s₁ B hml hv
  obtain ⟨rfl, hsz, hP, hG, hD0, hT⟩ := hv
  have hx := B.exec
  have hb := B.bytes
  have hr := B.returns
  have hts := atoms_spec (ws := wsX8_good) B.pre
  have hown : s.vm.findClass RX8 = some m.cls := findClass_of_methodNamed B.named
  have hlocks := B.notSynchronized
  subst hsz
  have hD := hD0.self (sz := s.heap.size)
  generalize hAe : va_A [((ka 0), .inr (8, [.ref (ka 20), .int 0, .int 0, .int 0, .int 0, .int 0, .int (-1)]))] s.heap.size = A at hD hT ⊢
  have hA : ∀ q : Nat, s.heap.size ≤ q → A q := fun q h => by rw [← hAe]; exact Or.inr h
  have hS : va_S A s.heap s.heap [] := va_S.rf
  have hl0 := lv_entry ([.ref (ka 0)]) (n := 1) (Nat.le_of_ble_eq_true rfl)
  rw [lg_entry_eq]
  generalize (lg_sl ([.ref (ka 0)]) ++ List.replicate (1 - (lg_sl ([.ref (ka 0)])).length) Slot.unset).toArray = ls at hl0 ⊢
  have hlv : lv_has ls 1 [(0, .ref (ka 0))] := hl0
  have lf31 := hts (.fieldLink RX8 31 "KerbSplash$Tape" "fault" "I") (by decide +kernel)
  have hi8 : ∀ w ∈ wsX80, w ∈ wsX8_good := by decide +kernel
  refine lv_aload_n hx hb dX8_good_0 rfl (lv_at hlv 0 rfl) ?_
  refine va_get (D := D) (ci := 8) (v := .int 0) (C := RX8) (T := TX8) (N := 7) hx hb hts hi8 hown hG.1 hP 0 rfl rfl 5 (by decide) lf31 (fun _ h9 => h9) rfl dX8_good_1 ?_
  refine lv_if_ne (tgt := 11) hx hb dX8_good_4 (by decide) (fun c => absurd (by decide) c) (fun _ => ?_)
  refine lv_iconst (v := 1) hx hb dX8_good_7 (by decide) ?_
  refine lv_goto (tgt := 12) hx hb dX8_good_8 (by decide) ?_
  refine W.widen (k := 0) (n := 0) (Nat.le_of_ble_eq_true rfl) (Nat.le_of_ble_eq_true rfl) ?_
  exact W.zret (v := 1) hx hb hr (by first | rfl | decide) (fun t ht hW => ⟨⟨1, ((fun k => ([] : List Nat).getD k 0), (fun k => ([] : List Int32).getD k 0), (fun k => ([] : List (Nat → Int32)).getD k (fun _ => 0))), rfl, (by first | (exact (by rfl))), by rw [ht]; exact hP.sub [0] rfl, hD.sub [0] (by decide) rfl⟩, hS.F ht⟩) hS.2.2 dX8_good_12
set_option maxHeartbeats 4000000 in
set_option maxRecDepth 100000 in
theorem c_sreset (l : Launch) (hl : l.stackTraces = false) (D : va_G) (cy : Nat → ClassId) (sa : Nat → Nat) (ka : Nat → Nat) (f0 f1 : Nat → Int32) (sz : Nat) : Met l yX6_reset wsX6_reset ({ frames := 1, cells := 0, slots := 0, locals := 23 }) (va_Pc [.ref (ka 6)] (pcW D cy sa sz [((ka 6), .inr (6, [.int 0, .int 0, .ref (ka 31), .ref (ka 32), .int 0, .int 0, .ref (ka 33), .int 0, .ref (ka 34), .int 0, .int 0, .ref (ka 35), .int 0, .ref (ka 36), .int 0, .int 0, .int 0, .int 0, .int 0])), ((ka 31), .inl (cy 0, 96, .inl f0)), ((ka 32), .inl (cy 0, 96, .inl f1))])) (va_Qv (fun u : SU => (True)) (fun u t => atW D (va_A [((ka 6), .inr (6, [.int 0, .int 0, .ref (ka 31), .ref (ka 32), .int 0, .int 0, .ref (ka 33), .int 0, .ref (ka 34), .int 0, .int 0, .ref (ka 35), .int 0, .ref (ka 36), .int 0, .int 0, .int 0, .int 0, .int 0])), ((ka 31), .inl (cy 0, 96, .inl f0)), ((ka 32), .inl (cy 0, 96, .inl f1))] sz) [((ka 6), .inr (6, [.int 8, .int 3, .ref (ka 31), .ref (ka 32), .int 0, .int 0, .ref (ka 33), .int 0, .ref (ka 34), .int 0, .int 0, .ref (ka 35), .int 0, .ref (ka 36), .int 0, .int 0, .int 0, .int 0, .int 0])), ((ka 31), .inl (cy 0, 96, .inl (u.2.2 0))), ((ka 32), .inl (cy 0, 96, .inl (u.2.2 1)))] t) (va_A [((ka 6), .inr (6, [.int 0, .int 0, .ref (ka 31), .ref (ka 32), .int 0, .int 0, .ref (ka 33), .int 0, .ref (ka 34), .int 0, .int 0, .ref (ka 35), .int 0, .ref (ka 36), .int 0, .int 0, .int 0, .int 0, .int 0])), ((ka 31), .inl (cy 0, 96, .inl f0)), ((ka 32), .inl (cy 0, 96, .inl f1))] sz)) 0 0 (va_A [((ka 6), .inr (6, [.int 0, .int 0, .ref (ka 31), .ref (ka 32), .int 0, .int 0, .ref (ka 33), .int 0, .ref (ka 34), .int 0, .int 0, .ref (ka 35), .int 0, .ref (ka 36), .int 0, .int 0, .int 0, .int 0, .int 0])), ((ka 31), .inl (cy 0, 96, .inl f0)), ((ka 32), .inl (cy 0, 96, .inl f1))] sz) := by
  refine Met.ofW (cc := cX6_reset) (maxL := 1) (ret := none) (by decide) rfl ?_
  intro p e s m args below meth c s₁ B hml hv
  obtain ⟨rfl, hsz, hP, hG, hD0, hT⟩ := hv
  have hx := B.exec
  have hb := B.bytes
  have hr := B.returns
  have hts := atoms_spec (ws := wsX6_reset) B.pre
  have hown : s.vm.findClass RX6 = some m.cls := findClass_of_methodNamed B.named
  have hlocks := B.notSynchronized
  subst hsz
  have hD := hD0.self (sz := s.heap.size)
  generalize hAe : va_A [((ka 6), .inr (6, [.int 0, .int 0, .ref (ka 31), .ref (ka 32), .int 0, .int 0, .ref (ka 33), .int 0, .ref (ka 34), .int 0, .int 0, .ref (ka 35), .int 0, .ref (ka 36), .int 0, .int 0, .int 0, .int 0, .int 0])), ((ka 31), .inl (cy 0, 96, .inl f0)), ((ka 32), .inl (cy 0, 96, .inl f1))] s.heap.size = A at hD hT ⊢
  have hA : ∀ q : Nat, s.heap.size ≤ q → A q := fun q h => by rw [← hAe]; exact Or.inr h
  have hS : va_S A s.heap s.heap [] := va_S.rf
  have hl0 := lv_entry ([.ref (ka 6)]) (n := 1) (Nat.le_of_ble_eq_true rfl)
  rw [lg_entry_eq]
  generalize (lg_sl ([.ref (ka 6)]) ++ List.replicate (1 - (lg_sl ([.ref (ka 6)])).length) Slot.unset).toArray = ls at hl0 ⊢
  have hlv : lv_has ls 1 [(0, .ref (ka 6))] := hl0
  have lf28 := hts (.fieldLink RX6 28 "KerbSplash$Street" "wide" "I") (by decide +kernel)
  have hi6 : ∀ w ∈ wsX60, w ∈ wsX6_reset := by decide +kernel
  have lf32 := hts (.fieldLink RX6 32 "KerbSplash$Street" "rows" "I") (by decide +kernel)
  have lf9 := hts (.fieldLink RX6 9 "KerbSplash$Street" "height" "[I") (by decide +kernel)
  have lf13 := hts (.fieldLink RX6 13 "KerbSplash$Street" "water" "[I") (by decide +kernel)
  have lf41 := hts (.fieldLink RX6 41 "KerbSplash$Street" "drains" "I") (by decide +kernel)
  have lf44 := hts (.fieldLink RX6 44 "KerbSplash$Street" "drainsTold" "I") (by decide +kernel)
  have lf47 := hts (.fieldLink RX6 47 "KerbSplash$Street" "persons" "I") (by decide +kernel)
  have lf50 := hts (.fieldLink RX6 50 "KerbSplash$Street" "guesses" "I") (by decide +kernel)
  have lf53 := hts (.fieldLink RX6 53 "KerbSplash$Street" "shelters" "I") (by decide +kernel)
  have lf56 := hts (.fieldLink RX6 56 "KerbSplash$Street" "works" "I") (by decide +kernel)
  have lf59 := hts (.fieldLink RX6 59 "KerbSplash$Street" "done" "I") (by decide +kernel)
  have lf62 := hts (.fieldLink RX6 62 "KerbSplash$Street" "minutes" "I") (by decide +kernel)
  have lf65 := hts (.fieldLink RX6 65 "KerbSplash$Street" "fallen" "I") (by decide +kernel)
  have lf68 := hts (.fieldLink RX6 68 "KerbSplash$Street" "taken" "I") (by decide +kernel)
  have lf71 := hts (.fieldLink RX6 71 "KerbSplash$Street" "gone" "I") (by decide +kernel)
  refine lv_aload_n hx hb dX6_reset_0 rfl (lv_at hlv 0 rfl) ?_
  refine lv_bipush (v := 8) hx hb dX6_reset_1 (by decide) ?_
  refine va_put (D := D) (ci := 6) (v := .int 8) (ty := .int) (C := RX6) (T := TX6) (N := 19) hx hb hts hi6 tyX6 tyX6_ok nmX6 hown hG.1 hP hD hS 0 rfl rfl 0 (by decide) lf28 (fun _ h9 => h9) rfl (by decide +kernel) rfl rfl (Nat.le_of_ble_eq_true rfl) dX6_reset_3 (fun H locs hP hD hS => ?_)
  have hP : va_P D vwCl [((ka 6), .inr (6, [.int 8, .int 0, .ref (ka 31), .ref (ka 32), .int 0, .int 0, .ref (ka 33), .int 0, .ref (ka 34), .int 0, .int 0, .ref (ka 35), .int 0, .ref (ka 36), .int 0, .int 0, .int 0, .int 0, .int 0])), ((ka 31), .inl (cy 0, 96, .inl f0)), ((ka 32), .inl (cy 0, 96, .inl f1))] H := hP
  have hD : va_D A [((ka 6), .inr (6, [.int 8, .int 0, .ref (ka 31), .ref (ka 32), .int 0, .int 0, .ref (ka 33), .int 0, .ref (ka 34), .int 0, .int 0, .ref (ka 35), .int 0, .ref (ka 36), .int 0, .int 0, .int 0, .int 0, .int 0])), ((ka 31), .inl (cy 0, 96, .inl f0)), ((ka 32), .inl (cy 0, 96, .inl f1))] := hD
  refine lv_aload_n hx hb dX6_reset_6 rfl (lv_at hlv 0 rfl) ?_
  refine lv_iconst (v := 3) hx hb dX6_reset_7 (by decide) ?_
  refine va_put (D := D) (ci := 6) (v := .int 3) (ty := .int) (C := RX6) (T := TX6) (N := 19) hx hb hts hi6 tyX6 tyX6_ok nmX6 hown hG.1 hP hD hS 0 rfl rfl 1 (by decide) lf32 (fun _ h9 => h9) rfl (by decide +kernel) rfl rfl (Nat.le_of_ble_eq_true rfl) dX6_reset_8 (fun H locs hP hD hS => ?_)
  have hP : va_P D vwCl [((ka 6), .inr (6, [.int 8, .int 3, .ref (ka 31), .ref (ka 32), .int 0, .int 0, .ref (ka 33), .int 0, .ref (ka 34), .int 0, .int 0, .ref (ka 35), .int 0, .ref (ka 36), .int 0, .int 0, .int 0, .int 0, .int 0])), ((ka 31), .inl (cy 0, 96, .inl f0)), ((ka 32), .inl (cy 0, 96, .inl f1))] H := hP
  have hD : va_D A [((ka 6), .inr (6, [.int 8, .int 3, .ref (ka 31), .ref (ka 32), .int 0, .int 0, .ref (ka 33), .int 0, .ref (ka 34), .int 0, .int 0, .ref (ka 35), .int 0, .ref (ka 36), .int 0, .int 0, .int 0, .int 0, .int 0])), ((ka 31), .inl (cy 0, 96, .inl f0)), ((ka 32), .inl (cy 0, 96, .inl f1))] := hD
  refine lv_aload_n hx hb dX6_reset_11 rfl (lv_at hlv 0 rfl) ?_
  refine va_get (D := D) (ci := 6) (v := .ref (ka 31)) (C := RX6) (T := TX6) (N := 19) hx hb hts hi6 hown hG.1 hP 0 rfl rfl 2 (by decide) lf9 (fun _ h9 => h9) rfl dX6_reset_12 ?_
  refine lv_bipush (v := 50) hx hb dX6_reset_15 (by decide) ?_
  refine cj_v (wr := [((ka 6), .inr (6, [.int 8, .int 3, .ref (ka 31), .ref (ka 32), .int 0, .int 0, .ref (ka 33), .int 0, .ref (ka 34), .int 0, .int 0, .ref (ka 35), .int 0, .ref (ka 36), .int 0, .int 0, .int 0, .int 0, .int 0])), ((ka 32), .inl (cy 0, 96, .inl f1))]) (va_runS (As := [.ref (ka 31), .int 50]) (rest := []) ⟨hx, hb, hml, hown, hts⟩ (c_fill_96 l hl D cy sa (ka 31) 50 f0 H.size) (va_cwS 2 hts gX6_reset_J7_fill_53178 rfl rfl rfl (by decide +kernel) ⟨Nat.le_of_ble_eq_true rfl, Nat.le_of_ble_eq_true rfl⟩) ⟨pcW.blind, (pcW.mk hP hD hS hA hG hT [1] rfl (by decide))⟩ rfl rfl hlv.1 rfl (lv_room (Nat.le_of_ble_eq_true rfl)) dX6_reset_17 ⟨Nat.le_of_ble_eq_true rfl, Nat.le_of_ble_eq_true rfl⟩) hP hD hS hA [1] [0, 2] rfl rfl (by decide) (by decide) (fun u1 H locs hw1 hP hD hS => ?_)
  have hP : va_P D vwCl [((ka 6), .inr (6, [.int 8, .int 3, .ref (ka 31), .ref (ka 32), .int 0, .int 0, .ref (ka 33), .int 0, .ref (ka 34), .int 0, .int 0, .ref (ka 35), .int 0, .ref (ka 36), .int 0, .int 0, .int 0, .int 0, .int 0])), ((ka 32), .inl (cy 0, 96, .inl f1)), ((ka 31), .inl (cy 0, 96, .inl (u1.2.2 0)))] H := hP
  have hD : va_D A [((ka 6), .inr (6, [.int 8, .int 3, .ref (ka 31), .ref (ka 32), .int 0, .int 0, .ref (ka 33), .int 0, .ref (ka 34), .int 0, .int 0, .ref (ka 35), .int 0, .ref (ka 36), .int 0, .int 0, .int 0, .int 0, .int 0])), ((ka 32), .inl (cy 0, 96, .inl f1)), ((ka 31), .inl (cy 0, 96, .inl (u1.2.2 0)))] := hD
  refine lv_aload_n hx hb dX6_reset_20 rfl (lv_at hlv 0 rfl) ?_
  refine va_get (D := D) (ci := 6) (v := .ref (ka 32)) (C := RX6) (T := TX6) (N := 19) hx hb hts hi6 hown hG.1 hP 0 rfl rfl 3 (by decide) lf13 (fun _ h9 => h9) rfl dX6_reset_21 ?_
  refine lv_iconst (v := 0) hx hb dX6_reset_24 (by decide) ?_
  refine cj_v (wr := [((ka 6), .inr (6, [.int 8, .int 3, .ref (ka 31), .ref (ka 32), .int 0, .int 0, .ref (ka 33), .int 0, .ref (ka 34), .int 0, .int 0, .ref (ka 35), .int 0, .ref (ka 36), .int 0, .int 0, .int 0, .int 0, .int 0])), ((ka 31), .inl (cy 0, 96, .inl (u1.2.2 0)))]) (va_runS (As := [.ref (ka 32), .int 0]) (rest := []) ⟨hx, hb, hml, hown, hts⟩ (c_fill_96 l hl D cy sa (ka 32) 0 f1 H.size) (va_cwS 2 hts gX6_reset_J7_fill_53178 rfl rfl rfl (by decide +kernel) ⟨Nat.le_of_ble_eq_true rfl, Nat.le_of_ble_eq_true rfl⟩) ⟨pcW.blind, (pcW.mk hP hD hS hA hG hT [1] rfl (by decide))⟩ rfl rfl hlv.1 rfl (lv_room (Nat.le_of_ble_eq_true rfl)) dX6_reset_25 ⟨Nat.le_of_ble_eq_true rfl, Nat.le_of_ble_eq_true rfl⟩) hP hD hS hA [1] [0, 2] rfl rfl (by decide) (by decide) (fun u2 H locs hw2 hP hD hS => ?_)
  have hP : va_P D vwCl [((ka 6), .inr (6, [.int 8, .int 3, .ref (ka 31), .ref (ka 32), .int 0, .int 0, .ref (ka 33), .int 0, .ref (ka 34), .int 0, .int 0, .ref (ka 35), .int 0, .ref (ka 36), .int 0, .int 0, .int 0, .int 0, .int 0])), ((ka 31), .inl (cy 0, 96, .inl (u1.2.2 0))), ((ka 32), .inl (cy 0, 96, .inl (u2.2.2 0)))] H := hP
  have hD : va_D A [((ka 6), .inr (6, [.int 8, .int 3, .ref (ka 31), .ref (ka 32), .int 0, .int 0, .ref (ka 33), .int 0, .ref (ka 34), .int 0, .int 0, .ref (ka 35), .int 0, .ref (ka 36), .int 0, .int 0, .int 0, .int 0, .int 0])), ((ka 31), .inl (cy 0, 96, .inl (u1.2.2 0))), ((ka 32), .inl (cy 0, 96, .inl (u2.2.2 0)))] := hD
  refine lv_aload_n hx hb dX6_reset_28 rfl (lv_at hlv 0 rfl) ?_
  refine lv_iconst (v := 0) hx hb dX6_reset_29 (by decide) ?_
  refine va_put (D := D) (ci := 6) (v := .int 0) (ty := .int) (C := RX6) (T := TX6) (N := 19) hx hb hts hi6 tyX6 tyX6_ok nmX6 hown hG.1 hP hD hS 0 rfl rfl 4 (by decide) lf41 (fun _ h9 => h9) rfl (by decide +kernel) rfl rfl (Nat.le_of_ble_eq_true rfl) dX6_reset_30 (fun H locs hP hD hS => ?_)
  have hP : va_P D vwCl [((ka 6), .inr (6, [.int 8, .int 3, .ref (ka 31), .ref (ka 32), .int 0, .int 0, .ref (ka 33), .int 0, .ref (ka 34), .int 0, .int 0, .ref (ka 35), .int 0, .ref (ka 36), .int 0, .int 0, .int 0, .int 0, .int 0])), ((ka 31), .inl (cy 0, 96, .inl (u1.2.2 0))), ((ka 32), .inl (cy 0, 96, .inl (u2.2.2 0)))] H := hP
  have hD : va_D A [((ka 6), .inr (6, [.int 8, .int 3, .ref (ka 31), .ref (ka 32), .int 0, .int 0, .ref (ka 33), .int 0, .ref (ka 34), .int 0, .int 0, .ref (ka 35), .int 0, .ref (ka 36), .int 0, .int 0, .int 0, .int 0, .int 0])), ((ka 31), .inl (cy 0, 96, .inl (u1.2.2 0))), ((ka 32), .inl (cy 0, 96, .inl (u2.2.2 0)))] := hD
  refine lv_aload_n hx hb dX6_reset_33 rfl (lv_at hlv 0 rfl) ?_
  refine lv_iconst (v := 0) hx hb dX6_reset_34 (by decide) ?_
  refine va_put (D := D) (ci := 6) (v := .int 0) (ty := .int) (C := RX6) (T := TX6) (N := 19) hx hb hts hi6 tyX6 tyX6_ok nmX6 hown hG.1 hP hD hS 0 rfl rfl 5 (by decide) lf44 (fun _ h9 => h9) rfl (by decide +kernel) rfl rfl (Nat.le_of_ble_eq_true rfl) dX6_reset_35 (fun H locs hP hD hS => ?_)
  have hP : va_P D vwCl [((ka 6), .inr (6, [.int 8, .int 3, .ref (ka 31), .ref (ka 32), .int 0, .int 0, .ref (ka 33), .int 0, .ref (ka 34), .int 0, .int 0, .ref (ka 35), .int 0, .ref (ka 36), .int 0, .int 0, .int 0, .int 0, .int 0])), ((ka 31), .inl (cy 0, 96, .inl (u1.2.2 0))), ((ka 32), .inl (cy 0, 96, .inl (u2.2.2 0)))] H := hP
  have hD : va_D A [((ka 6), .inr (6, [.int 8, .int 3, .ref (ka 31), .ref (ka 32), .int 0, .int 0, .ref (ka 33), .int 0, .ref (ka 34), .int 0, .int 0, .ref (ka 35), .int 0, .ref (ka 36), .int 0, .int 0, .int 0, .int 0, .int 0])), ((ka 31), .inl (cy 0, 96, .inl (u1.2.2 0))), ((ka 32), .inl (cy 0, 96, .inl (u2.2.2 0)))] := hD
  refine lv_aload_n hx hb dX6_reset_38 rfl (lv_at hlv 0 rfl) ?_
  refine lv_iconst (v := 0) hx hb dX6_reset_39 (by decide) ?_
  refine va_put (D := D) (ci := 6) (v := .int 0) (ty := .int) (C := RX6) (T := TX6) (N := 19) hx hb hts hi6 tyX6 tyX6_ok nmX6 hown hG.1 hP hD hS 0 rfl rfl 7 (by decide) lf47 (fun _ h9 => h9) rfl (by decide +kernel) rfl rfl (Nat.le_of_ble_eq_true rfl) dX6_reset_40 (fun H locs hP hD hS => ?_)
  have hP : va_P D vwCl [((ka 6), .inr (6, [.int 8, .int 3, .ref (ka 31), .ref (ka 32), .int 0, .int 0, .ref (ka 33), .int 0, .ref (ka 34), .int 0, .int 0, .ref (ka 35), .int 0, .ref (ka 36), .int 0, .int 0, .int 0, .int 0, .int 0])), ((ka 31), .inl (cy 0, 96, .inl (u1.2.2 0))), ((ka 32), .inl (cy 0, 96, .inl (u2.2.2 0)))] H := hP
  have hD : va_D A [((ka 6), .inr (6, [.int 8, .int 3, .ref (ka 31), .ref (ka 32), .int 0, .int 0, .ref (ka 33), .int 0, .ref (ka 34), .int 0, .int 0, .ref (ka 35), .int 0, .ref (ka 36), .int 0, .int 0, .int 0, .int 0, .int 0])), ((ka 31), .inl (cy 0, 96, .inl (u1.2.2 0))), ((ka 32), .inl (cy 0, 96, .inl (u2.2.2 0)))] := hD
  refine lv_aload_n hx hb dX6_reset_43 rfl (lv_at hlv 0 rfl) ?_
  refine lv_iconst (v := 0) hx hb dX6_reset_44 (by decide) ?_
  refine va_put (D := D) (ci := 6) (v := .int 0) (ty := .int) (C := RX6) (T := TX6) (N := 19) hx hb hts hi6 tyX6 tyX6_ok nmX6 hown hG.1 hP hD hS 0 rfl rfl 9 (by decide) lf50 (fun _ h9 => h9) rfl (by decide +kernel) rfl rfl (Nat.le_of_ble_eq_true rfl) dX6_reset_45 (fun H locs hP hD hS => ?_)
  have hP : va_P D vwCl [((ka 6), .inr (6, [.int 8, .int 3, .ref (ka 31), .ref (ka 32), .int 0, .int 0, .ref (ka 33), .int 0, .ref (ka 34), .int 0, .int 0, .ref (ka 35), .int 0, .ref (ka 36), .int 0, .int 0, .int 0, .int 0, .int 0])), ((ka 31), .inl (cy 0, 96, .inl (u1.2.2 0))), ((ka 32), .inl (cy 0, 96, .inl (u2.2.2 0)))] H := hP
  have hD : va_D A [((ka 6), .inr (6, [.int 8, .int 3, .ref (ka 31), .ref (ka 32), .int 0, .int 0, .ref (ka 33), .int 0, .ref (ka 34), .int 0, .int 0, .ref (ka 35), .int 0, .ref (ka 36), .int 0, .int 0, .int 0, .int 0, .int 0])), ((ka 31), .inl (cy 0, 96, .inl (u1.2.2 0))), ((ka 32), .inl (cy 0, 96, .inl (u2.2.2 0)))] := hD
  refine lv_aload_n hx hb dX6_reset_48 rfl (lv_at hlv 0 rfl) ?_
  refine lv_iconst (v := 0) hx hb dX6_reset_49 (by decide) ?_
  refine va_put (D := D) (ci := 6) (v := .int 0) (ty := .int) (C := RX6) (T := TX6) (N := 19) hx hb hts hi6 tyX6 tyX6_ok nmX6 hown hG.1 hP hD hS 0 rfl rfl 10 (by decide) lf53 (fun _ h9 => h9) rfl (by decide +kernel) rfl rfl (Nat.le_of_ble_eq_true rfl) dX6_reset_50 (fun H locs hP hD hS => ?_)
  have hP : va_P D vwCl [((ka 6), .inr (6, [.int 8, .int 3, .ref (ka 31), .ref (ka 32), .int 0, .int 0, .ref (ka 33), .int 0, .ref (ka 34), .int 0, .int 0, .ref (ka 35), .int 0, .ref (ka 36), .int 0, .int 0, .int 0, .int 0, .int 0])), ((ka 31), .inl (cy 0, 96, .inl (u1.2.2 0))), ((ka 32), .inl (cy 0, 96, .inl (u2.2.2 0)))] H := hP
  have hD : va_D A [((ka 6), .inr (6, [.int 8, .int 3, .ref (ka 31), .ref (ka 32), .int 0, .int 0, .ref (ka 33), .int 0, .ref (ka 34), .int 0, .int 0, .ref (ka 35), .int 0, .ref (ka 36), .int 0, .int 0, .int 0, .int 0, .int 0])), ((ka 31), .inl (cy 0, 96, .inl (u1.2.2 0))), ((ka 32), .inl (cy 0, 96, .inl (u2.2.2 0)))] := hD
  refine lv_aload_n hx hb dX6_reset_53 rfl (lv_at hlv 0 rfl) ?_
  refine lv_iconst (v := 0) hx hb dX6_reset_54 (by decide) ?_
  refine va_put (D := D) (ci := 6) (v := .int 0) (ty := .int) (C := RX6) (T := TX6) (N := 19) hx hb hts hi6 tyX6 tyX6_ok nmX6 hown hG.1 hP hD hS 0 rfl rfl 12 (by decide) lf56 (fun _ h9 => h9) rfl (by decide +kernel) rfl rfl (Nat.le_of_ble_eq_true rfl) dX6_reset_55 (fun H locs hP hD hS => ?_)
  have hP : va_P D vwCl [((ka 6), .inr (6, [.int 8, .int 3, .ref (ka 31), .ref (ka 32), .int 0, .int 0, .ref (ka 33), .int 0, .ref (ka 34), .int 0, .int 0, .ref (ka 35), .int 0, .ref (ka 36), .int 0, .int 0, .int 0, .int 0, .int 0])), ((ka 31), .inl (cy 0, 96, .inl (u1.2.2 0))), ((ka 32), .inl (cy 0, 96, .inl (u2.2.2 0)))] H := hP
  have hD : va_D A [((ka 6), .inr (6, [.int 8, .int 3, .ref (ka 31), .ref (ka 32), .int 0, .int 0, .ref (ka 33), .int 0, .ref (ka 34), .int 0, .int 0, .ref (ka 35), .int 0, .ref (ka 36), .int 0, .int 0, .int 0, .int 0, .int 0])), ((ka 31), .inl (cy 0, 96, .inl (u1.2.2 0))), ((ka 32), .inl (cy 0, 96, .inl (u2.2.2 0)))] := hD
  refine lv_aload_n hx hb dX6_reset_58 rfl (lv_at hlv 0 rfl) ?_
  refine lv_iconst (v := 0) hx hb dX6_reset_59 (by decide) ?_
  refine va_put (D := D) (ci := 6) (v := .int 0) (ty := .int) (C := RX6) (T := TX6) (N := 19) hx hb hts hi6 tyX6 tyX6_ok nmX6 hown hG.1 hP hD hS 0 rfl rfl 14 (by decide) lf59 (fun _ h9 => h9) rfl (by decide +kernel) rfl rfl (Nat.le_of_ble_eq_true rfl) dX6_reset_60 (fun H locs hP hD hS => ?_)
  have hP : va_P D vwCl [((ka 6), .inr (6, [.int 8, .int 3, .ref (ka 31), .ref (ka 32), .int 0, .int 0, .ref (ka 33), .int 0, .ref (ka 34), .int 0, .int 0, .ref (ka 35), .int 0, .ref (ka 36), .int 0, .int 0, .int 0, .int 0, .int 0])), ((ka 31), .inl (cy 0, 96, .inl (u1.2.2 0))), ((ka 32), .inl (cy 0, 96, .inl (u2.2.2 0)))] H := hP
  have hD : va_D A [((ka 6), .inr (6, [.int 8, .int 3, .ref (ka 31), .ref (ka 32), .int 0, .int 0, .ref (ka 33), .int 0, .ref (ka 34), .int 0, .int 0, .ref (ka 35), .int 0, .ref (ka 36), .int 0, .int 0, .int 0, .int 0, .int 0])), ((ka 31), .inl (cy 0, 96, .inl (u1.2.2 0))), ((ka 32), .inl (cy 0, 96, .inl (u2.2.2 0)))] := hD
  refine lv_aload_n hx hb dX6_reset_63 rfl (lv_at hlv 0 rfl) ?_
  refine lv_iconst (v := 0) hx hb dX6_reset_64 (by decide) ?_
  refine va_put (D := D) (ci := 6) (v := .int 0) (ty := .int) (C := RX6) (T := TX6) (N := 19) hx hb hts hi6 tyX6 tyX6_ok nmX6 hown hG.1 hP hD hS 0 rfl rfl 15 (by decide) lf62 (fun _ h9 => h9) rfl (by decide +kernel) rfl rfl (Nat.le_of_ble_eq_true rfl) dX6_reset_65 (fun H locs hP hD hS => ?_)
  have hP : va_P D vwCl [((ka 6), .inr (6, [.int 8, .int 3, .ref (ka 31), .ref (ka 32), .int 0, .int 0, .ref (ka 33), .int 0, .ref (ka 34), .int 0, .int 0, .ref (ka 35), .int 0, .ref (ka 36), .int 0, .int 0, .int 0, .int 0, .int 0])), ((ka 31), .inl (cy 0, 96, .inl (u1.2.2 0))), ((ka 32), .inl (cy 0, 96, .inl (u2.2.2 0)))] H := hP
  have hD : va_D A [((ka 6), .inr (6, [.int 8, .int 3, .ref (ka 31), .ref (ka 32), .int 0, .int 0, .ref (ka 33), .int 0, .ref (ka 34), .int 0, .int 0, .ref (ka 35), .int 0, .ref (ka 36), .int 0, .int 0, .int 0, .int 0, .int 0])), ((ka 31), .inl (cy 0, 96, .inl (u1.2.2 0))), ((ka 32), .inl (cy 0, 96, .inl (u2.2.2 0)))] := hD
  refine lv_aload_n hx hb dX6_reset_68 rfl (lv_at hlv 0 rfl) ?_
  refine lv_iconst (v := 0) hx hb dX6_reset_69 (by decide) ?_
  refine va_put (D := D) (ci := 6) (v := .int 0) (ty := .int) (C := RX6) (T := TX6) (N := 19) hx hb hts hi6 tyX6 tyX6_ok nmX6 hown hG.1 hP hD hS 0 rfl rfl 16 (by decide) lf65 (fun _ h9 => h9) rfl (by decide +kernel) rfl rfl (Nat.le_of_ble_eq_true rfl) dX6_reset_70 (fun H locs hP hD hS => ?_)
  have hP : va_P D vwCl [((ka 6), .inr (6, [.int 8, .int 3, .ref (ka 31), .ref (ka 32), .int 0, .int 0, .ref (ka 33), .int 0, .ref (ka 34), .int 0, .int 0, .ref (ka 35), .int 0, .ref (ka 36), .int 0, .int 0, .int 0, .int 0, .int 0])), ((ka 31), .inl (cy 0, 96, .inl (u1.2.2 0))), ((ka 32), .inl (cy 0, 96, .inl (u2.2.2 0)))] H := hP
  have hD : va_D A [((ka 6), .inr (6, [.int 8, .int 3, .ref (ka 31), .ref (ka 32), .int 0, .int 0, .ref (ka 33), .int 0, .ref (ka 34), .int 0, .int 0, .ref (ka 35), .int 0, .ref (ka 36), .int 0, .int 0, .int 0, .int 0, .int 0])), ((ka 31), .inl (cy 0, 96, .inl (u1.2.2 0))), ((ka 32), .inl (cy 0, 96, .inl (u2.2.2 0)))] := hD
  refine lv_aload_n hx hb dX6_reset_73 rfl (lv_at hlv 0 rfl) ?_
  refine lv_iconst (v := 0) hx hb dX6_reset_74 (by decide) ?_
  refine va_put (D := D) (ci := 6) (v := .int 0) (ty := .int) (C := RX6) (T := TX6) (N := 19) hx hb hts hi6 tyX6 tyX6_ok nmX6 hown hG.1 hP hD hS 0 rfl rfl 17 (by decide) lf68 (fun _ h9 => h9) rfl (by decide +kernel) rfl rfl (Nat.le_of_ble_eq_true rfl) dX6_reset_75 (fun H locs hP hD hS => ?_)
  have hP : va_P D vwCl [((ka 6), .inr (6, [.int 8, .int 3, .ref (ka 31), .ref (ka 32), .int 0, .int 0, .ref (ka 33), .int 0, .ref (ka 34), .int 0, .int 0, .ref (ka 35), .int 0, .ref (ka 36), .int 0, .int 0, .int 0, .int 0, .int 0])), ((ka 31), .inl (cy 0, 96, .inl (u1.2.2 0))), ((ka 32), .inl (cy 0, 96, .inl (u2.2.2 0)))] H := hP
  have hD : va_D A [((ka 6), .inr (6, [.int 8, .int 3, .ref (ka 31), .ref (ka 32), .int 0, .int 0, .ref (ka 33), .int 0, .ref (ka 34), .int 0, .int 0, .ref (ka 35), .int 0, .ref (ka 36), .int 0, .int 0, .int 0, .int 0, .int 0])), ((ka 31), .inl (cy 0, 96, .inl (u1.2.2 0))), ((ka 32), .inl (cy 0, 96, .inl (u2.2.2 0)))] := hD
  refine lv_aload_n hx hb dX6_reset_78 rfl (lv_at hlv 0 rfl) ?_
  refine lv_iconst (v := 0) hx hb dX6_reset_79 (by decide) ?_
  refine va_put (D := D) (ci := 6) (v := .int 0) (ty := .int) (C := RX6) (T := TX6) (N := 19) hx hb hts hi6 tyX6 tyX6_ok nmX6 hown hG.1 hP hD hS 0 rfl rfl 18 (by decide) lf71 (fun _ h9 => h9) rfl (by decide +kernel) rfl rfl (Nat.le_of_ble_eq_true rfl) dX6_reset_80 (fun H locs hP hD hS => ?_)
  have hP : va_P D vwCl [((ka 6), .inr (6, [.int 8, .int 3, .ref (ka 31), .ref (ka 32), .int 0, .int 0, .ref (ka 33), .int 0, .ref (ka 34), .int 0, .int 0, .ref (ka 35), .int 0, .ref (ka 36), .int 0, .int 0, .int 0, .int 0, .int 0])), ((ka 31), .inl (cy 0, 96, .inl (u1.2.2 0))), ((ka 32), .inl (cy 0, 96, .inl (u2.2.2 0)))] H := hP
  have hD : va_D A [((ka 6), .inr (6, [.int 8, .int 3, .ref (ka 31), .ref (ka 32), .int 0, .int 0, .ref (ka 33), .int 0, .ref (ka 34), .int 0, .int 0, .ref (ka 35), .int 0, .ref (ka 36), .int 0, .int 0, .int 0, .int 0, .int 0])), ((ka 31), .inl (cy 0, 96, .inl (u1.2.2 0))), ((ka 32), .inl (cy 0, 96, .inl (u2.2.2 0)))] := hD
  refine W.widen (k := 0) (n := 0) (Nat.le_of_ble_eq_true rfl) (Nat.le_of_ble_eq_true rfl) ?_
  exact W.vret hx hb hr (fun t ht hW => ⟨⟨((fun k => ([] : List Nat).getD k 0), (fun k => ([] : List Int32).getD k 0), (fun k => ([(u1.2.2 0), (u2.2.2 0)] : List (Nat → Int32)).getD k (fun _ => 0))), rfl, (by first | (trivial)), by rw [ht]; exact hP.sub [0, 1, 2] rfl, hD.sub [0, 1, 2] (by decide) rfl⟩, hS.F ht⟩) hS.2.2 dX6_reset_83
set_option maxHeartbeats 4000000 in
set_option maxRecDepth 100000 in
theorem c_rdinit (l : Launch) (hl : l.stackTraces = false) (D : va_G) (cy : Nat → ClassId) (sa : Nat → Nat) (h0 t0 s0 : Nat) (sz : Nat) : Met l yX7_init wsX7_init ({ frames := 1, cells := 0, slots := 0, locals := 20 }) (va_Pc [.ref h0, .ref t0, .ref s0] (pcW D cy sa sz [(h0, .inr (7, [.null, .null]))])) (va_Qv (fun u : SU => (True)) (fun u t => atW D (va_A [(h0, .inr (7, [.null, .null]))] sz) [(h0, .inr (7, [.ref t0, .ref s0]))] t) (va_A [(h0, .inr (7, [.null, .null]))] sz)) 0 0 (va_A [(h0, .inr (7, [.null, .null]))] sz) := by
  refine Met.ofW (cc := cX7_init) (maxL := 3) (ret := none) (by decide) rfl ?_
  intro p e s m args below meth c s₁ B hml hv
  obtain ⟨rfl, hsz, hP, hG, hD0, hT⟩ := hv
  have hx := B.exec
  have hb := B.bytes
  have hr := B.returns
  have hts := atoms_spec (ws := wsX7_init) B.pre
  have hown : s.vm.findClass RX7 = some m.cls := findClass_of_methodNamed B.named
  have hlocks := B.notSynchronized
  have hin : meth.name = "<init>" := (name_of_methodNamed B.named B.method).1
  subst hsz
  have hD := hD0.self (sz := s.heap.size)
  generalize hAe : va_A [(h0, .inr (7, [.null, .null]))] s.heap.size = A at hD hT ⊢
  have hA : ∀ q : Nat, s.heap.size ≤ q → A q := fun q h => by rw [← hAe]; exact Or.inr h
  have hS : va_S A s.heap s.heap [] := va_S.rf
  have hl0 := lv_entry ([.ref h0, .ref t0, .ref s0]) (n := 3) (Nat.le_of_ble_eq_true rfl)
  rw [lg_entry_eq]
  generalize (lg_sl ([.ref h0, .ref t0, .ref s0]) ++ List.replicate (3 - (lg_sl ([.ref h0, .ref t0, .ref s0])).length) Slot.unset).toArray = ls at hl0 ⊢
  have hlv : lv_has ls 3 [(0, .ref h0), (1, .ref t0), (2, .ref s0)] := hl0
  have lo3 := hts (.methodLink RX7 3 objectInit) (by decide +kernel)
  have oi := hts (.instanceMethod objectInit) (by decide +kernel)
  have oc := hts (.code objectInit ⟨#[0xb1]⟩ 1 none) (by decide +kernel)
  have lf9 := hts (.fieldLink RX7 9 "KerbSplash$StreetReader" "tape" "LKerbSplash$Tape;") (by decide +kernel)
  have hi7 : ∀ w ∈ wsX70, w ∈ wsX7_init := by decide +kernel
  have lf15 := hts (.fieldLink RX7 15 "KerbSplash$StreetReader" "street" "LKerbSplash$Street;") (by decide +kernel)
  refine lv_aload_n hx hb dX7_init_0 rfl (lv_at hlv 0 rfl) ?_
  refine W.objInit hx hb hown lo3 oi oc rfl (by rw [hml]; exact hlv.1) rfl dX7_init_1 (Nat.le_of_ble_eq_true rfl) (Nat.le_of_ble_eq_true rfl) ?_
  refine W.eq (g2 := F0 m 4 ls []) rfl ?_
  refine lv_aload_n hx hb dX7_init_4 rfl (lv_at hlv 0 rfl) ?_
  refine lv_aload_n hx hb dX7_init_5 rfl (lv_at hlv 1 rfl) ?_
  refine va_putF (D := D) (ci := 7) (v := .ref t0) (ty := .object "KerbSplash$Tape") (C := RX7) (T := TX7) (N := 2) hx hb hts hi7 tyX7 tyX7_ok nmX7 hown hG.1 hP hD hS 0 rfl rfl 0 (by decide) lf9 (fun _ h9 => h9) rfl hin rfl (by decide +kernel) rfl rfl (Nat.le_of_ble_eq_true rfl) dX7_init_6 (fun H locs hP hD hS => ?_)
  have hP : va_P D vwCl [(h0, .inr (7, [.ref t0, .null]))] H := hP
  have hD : va_D A [(h0, .inr (7, [.ref t0, .null]))] := hD
  refine lv_aload_n hx hb dX7_init_9 rfl (lv_at hlv 0 rfl) ?_
  refine lv_aload_n hx hb dX7_init_10 rfl (lv_at hlv 2 rfl) ?_
  refine va_putF (D := D) (ci := 7) (v := .ref s0) (ty := .object "KerbSplash$Street") (C := RX7) (T := TX7) (N := 2) hx hb hts hi7 tyX7 tyX7_ok nmX7 hown hG.1 hP hD hS 0 rfl rfl 1 (by decide) lf15 (fun _ h9 => h9) rfl hin rfl (by decide +kernel) rfl rfl (Nat.le_of_ble_eq_true rfl) dX7_init_11 (fun H locs hP hD hS => ?_)
  have hP : va_P D vwCl [(h0, .inr (7, [.ref t0, .ref s0]))] H := hP
  have hD : va_D A [(h0, .inr (7, [.ref t0, .ref s0]))] := hD
  refine W.widen (k := 0) (n := 0) (Nat.le_of_ble_eq_true rfl) (Nat.le_of_ble_eq_true rfl) ?_
  exact W.vret hx hb hr (fun t ht hW => ⟨⟨((fun k => ([] : List Nat).getD k 0), (fun k => ([] : List Int32).getD k 0), (fun k => ([] : List (Nat → Int32)).getD k (fun _ => 0))), rfl, (by first | (trivial)), by rw [ht]; exact hP.sub [0] rfl, hD.sub [0] (by decide) rfl⟩, hS.F ht⟩) hS.2.2 dX7_init_14
set_option maxHeartbeats 4000000 in
set_option maxRecDepth 100000 in
theorem c_rdread (l : Launch) (hl : l.stackTraces = false) (D : va_G) (cy : Nat → ClassId) (sa : Nat → Nat) (h0 : Nat) (ka : Nat → Nat) (f0 f1 : Nat → Int32) (sz : Nat) : Met l yX7_read wsX7_read ({ frames := 2, cells := 0, slots := 0, locals := 43 }) (va_Pc [.ref h0] (pcW D cy sa sz [(h0, .inr (7, [.ref (ka 0), .ref (ka 6)])), ((ka 0), .inr (8, [.ref (ka 20), .int 0, .int 0, .int 0, .int 0, .int 0, .int (-1)])), ((ka 6), .inr (6, [.int 0, .int 0, .ref (ka 31), .ref (ka 32), .int 0, .int 0, .ref (ka 33), .int 0, .ref (ka 34), .int 0, .int 0, .ref (ka 35), .int 0, .ref (ka 36), .int 0, .int 0, .int 0, .int 0, .int 0])), ((ka 31), .inl (cy 0, 96, .inl f0)), ((ka 32), .inl (cy 0, 96, .inl f1))])) (va_Qv (fun u : SU => (True)) (fun u t => atW D (va_A [(h0, .inr (7, [.ref (ka 0), .ref (ka 6)])), ((ka 0), .inr (8, [.ref (ka 20), .int 0, .int 0, .int 0, .int 0, .int 0, .int (-1)])), ((ka 6), .inr (6, [.int 0, .int 0, .ref (ka 31), .ref (ka 32), .int 0, .int 0, .ref (ka 33), .int 0, .ref (ka 34), .int 0, .int 0, .ref (ka 35), .int 0, .ref (ka 36), .int 0, .int 0, .int 0, .int 0, .int 0])), ((ka 31), .inl (cy 0, 96, .inl f0)), ((ka 32), .inl (cy 0, 96, .inl f1))] sz) [((ka 0), .inr (8, [.ref (ka 20), .int 0, .int 0, .int 0, .int 0, .int 0, .int (-1)])), ((ka 6), .inr (6, [.int 8, .int 3, .ref (ka 31), .ref (ka 32), .int 0, .int 0, .ref (ka 33), .int 0, .ref (ka 34), .int 0, .int 0, .ref (ka 35), .int 0, .ref (ka 36), .int 0, .int 0, .int 0, .int 0, .int 0])), ((ka 31), .inl (cy 0, 96, .inl (u.2.2 0))), ((ka 32), .inl (cy 0, 96, .inl (u.2.2 1)))] t) (va_A [(h0, .inr (7, [.ref (ka 0), .ref (ka 6)])), ((ka 0), .inr (8, [.ref (ka 20), .int 0, .int 0, .int 0, .int 0, .int 0, .int (-1)])), ((ka 6), .inr (6, [.int 0, .int 0, .ref (ka 31), .ref (ka 32), .int 0, .int 0, .ref (ka 33), .int 0, .ref (ka 34), .int 0, .int 0, .ref (ka 35), .int 0, .ref (ka 36), .int 0, .int 0, .int 0, .int 0, .int 0])), ((ka 31), .inl (cy 0, 96, .inl f0)), ((ka 32), .inl (cy 0, 96, .inl f1))] sz)) 0 0 (va_A [(h0, .inr (7, [.ref (ka 0), .ref (ka 6)])), ((ka 0), .inr (8, [.ref (ka 20), .int 0, .int 0, .int 0, .int 0, .int 0, .int (-1)])), ((ka 6), .inr (6, [.int 0, .int 0, .ref (ka 31), .ref (ka 32), .int 0, .int 0, .ref (ka 33), .int 0, .ref (ka 34), .int 0, .int 0, .ref (ka 35), .int 0, .ref (ka 36), .int 0, .int 0, .int 0, .int 0, .int 0])), ((ka 31), .inl (cy 0, 96, .inl f0)), ((ka 32), .inl (cy 0, 96, .inl f1))] sz) := by
  refine Met.ofW (cc := cX7_read) (maxL := 2) (ret := none) (by decide) rfl ?_
  intro p e s m args below meth c s₁ B hml hv
  obtain ⟨rfl, hsz, hP, hG, hD0, hT⟩ := hv
  have hx := B.exec
  have hb := B.bytes
  have hr := B.returns
  have hts := atoms_spec (ws := wsX7_read) B.pre
  have hown : s.vm.findClass RX7 = some m.cls := findClass_of_methodNamed B.named
  have hlocks := B.notSynchronized
  subst hsz
  have hD := hD0.self (sz := s.heap.size)
  generalize hAe : va_A [(h0, .inr (7, [.ref (ka 0), .ref (ka 6)])), ((ka 0), .inr (8, [.ref (ka 20), .int 0, .int 0, .int 0, .int 0, .int 0, .int (-1)])), ((ka 6), .inr (6, [.int 0, .int 0, .ref (ka 31), .ref (ka 32), .int 0, .int 0, .ref (ka 33), .int 0, .ref (ka 34), .int 0, .int 0, .ref (ka 35), .int 0, .ref (ka 36), .int 0, .int 0, .int 0, .int 0, .int 0])), ((ka 31), .inl (cy 0, 96, .inl f0)), ((ka 32), .inl (cy 0, 96, .inl f1))] s.heap.size = A at hD hT ⊢
  have hA : ∀ q : Nat, s.heap.size ≤ q → A q := fun q h => by rw [← hAe]; exact Or.inr h
  have hS : va_S A s.heap s.heap [] := va_S.rf
  have hl0 := lv_entry ([.ref h0]) (n := 2) (Nat.le_of_ble_eq_true rfl)
  rw [lg_entry_eq]
  generalize (lg_sl ([.ref h0]) ++ List.replicate (2 - (lg_sl ([.ref h0])).length) Slot.unset).toArray = ls at hl0 ⊢
  have hlv : lv_has ls 2 [(0, .ref h0)] := hl0
  have lf15 := hts (.fieldLink RX7 15 "KerbSplash$StreetReader" "street" "LKerbSplash$Street;") (by decide +kernel)
  have hi7 : ∀ w ∈ wsX70, w ∈ wsX7_read := by decide +kernel
  have ini_RX6 := hts (.initialized RX6) (by decide +kernel)
  have im_X6_reset := hts (.instanceMethod yX6_reset) (by decide +kernel)
  have se_X6_reset := hts (.selects RX6 yX6_reset yX6_reset) (by decide +kernel)
  have lf9 := hts (.fieldLink RX7 9 "KerbSplash$StreetReader" "tape" "LKerbSplash$Tape;") (by decide +kernel)
  have ini_RX8 := hts (.initialized RX8) (by decide +kernel)
  have im_X8_hasMore := hts (.instanceMethod yX8_hasMore) (by decide +kernel)
  have se_X8_hasMore := hts (.selects RX8 yX8_hasMore yX8_hasMore) (by decide +kernel)
  refine lv_aload_n hx hb dX7_read_0 rfl (lv_at hlv 0 rfl) ?_
  refine va_get (D := D) (ci := 7) (v := .ref (ka 6)) (C := RX7) (T := TX7) (N := 2) hx hb hts hi7 hown hG.1 hP 0 rfl rfl 1 (by decide) lf15 (fun _ h9 => h9) rfl dX7_read_1 ?_
  refine cj_v (wr := [(h0, .inr (7, [.ref (ka 0), .ref (ka 6)])), ((ka 0), .inr (8, [.ref (ka 20), .int 0, .int 0, .int 0, .int 0, .int 0, .int (-1)]))]) (va_runVN (host := "KerbSplash") (As := []) (rest := []) ⟨hx, hb, hml, hown, hts⟩ (c_sreset l hl D cy sa ka f0 f1 s.heap.size) ⟨va_cnB 0 hts gX7_read_X6_reset_n19 rfl rfl rfl (nM_StreetReader_19 hG.2.1) ini_RX6 (by decide +kernel) ⟨Nat.le_of_ble_eq_true rfl, Nat.le_of_ble_eq_true rfl⟩, im_X6_reset, se_X6_reset⟩ ⟨pcW.blind, (va_recv hG.1 hP (ci := 6) (q0 := 2) rfl rfl), (pcW.mk hP hD hS hA hG hT [2, 3, 4] rfl (by decide))⟩ rfl rfl hlv.1 rfl (lv_room (Nat.le_of_ble_eq_true rfl)) dX7_read_4 ⟨Nat.le_of_ble_eq_true rfl, Nat.le_of_ble_eq_true rfl⟩) hP hD hS hA [2, 3, 4] [0, 1] rfl rfl (by decide) (by decide) (fun u1 H locs hw1 hP hD hS => ?_)
  have hP : va_P D vwCl [(h0, .inr (7, [.ref (ka 0), .ref (ka 6)])), ((ka 0), .inr (8, [.ref (ka 20), .int 0, .int 0, .int 0, .int 0, .int 0, .int (-1)])), ((ka 6), .inr (6, [.int 8, .int 3, .ref (ka 31), .ref (ka 32), .int 0, .int 0, .ref (ka 33), .int 0, .ref (ka 34), .int 0, .int 0, .ref (ka 35), .int 0, .ref (ka 36), .int 0, .int 0, .int 0, .int 0, .int 0])), ((ka 31), .inl (cy 0, 96, .inl (u1.2.2 0))), ((ka 32), .inl (cy 0, 96, .inl (u1.2.2 1)))] H := hP
  have hD : va_D A [(h0, .inr (7, [.ref (ka 0), .ref (ka 6)])), ((ka 0), .inr (8, [.ref (ka 20), .int 0, .int 0, .int 0, .int 0, .int 0, .int (-1)])), ((ka 6), .inr (6, [.int 8, .int 3, .ref (ka 31), .ref (ka 32), .int 0, .int 0, .ref (ka 33), .int 0, .ref (ka 34), .int 0, .int 0, .ref (ka 35), .int 0, .ref (ka 36), .int 0, .int 0, .int 0, .int 0, .int 0])), ((ka 31), .inl (cy 0, 96, .inl (u1.2.2 0))), ((ka 32), .inl (cy 0, 96, .inl (u1.2.2 1)))] := hD
  refine lv_iconst (v := 0) hx hb dX7_read_7 (by decide) ?_
  refine lv_istore_n (lv' := [(1, .int 0), (0, .ref h0)]) hx hb dX7_read_8 rfl hlv (by decide) rfl (fun ls hlv => ?_)
  refine lv_iload_n hx hb dX7_read_9 rfl (lv_at hlv 0 rfl) ?_
  refine lv_bipush (v := 60) hx hb dX7_read_10 (by decide) ?_
  refine lv_icmp_gt (tgt := 36) hx hb dX7_read_12 (by decide) (fun c => absurd c (by decide)) (fun _ => ?_)
  refine lv_aload_n hx hb dX7_read_15 rfl (lv_at hlv 1 rfl) ?_
  refine va_get (D := D) (ci := 7) (v := .ref (ka 0)) (C := RX7) (T := TX7) (N := 2) hx hb hts hi7 hown hG.1 hP 0 rfl rfl 0 (by decide) lf9 (fun _ h9 => h9) rfl dX7_read_16 ?_
  refine cj_i (wr := [(h0, .inr (7, [.ref (ka 0), .ref (ka 6)])), ((ka 6), .inr (6, [.int 8, .int 3, .ref (ka 31), .ref (ka 32), .int 0, .int 0, .ref (ka 33), .int 0, .ref (ka 34), .int 0, .int 0, .ref (ka 35), .int 0, .ref (ka 36), .int 0, .int 0, .int 0, .int 0, .int 0])), ((ka 31), .inl (cy 0, 96, .inl (u1.2.2 0))), ((ka 32), .inl (cy 0, 96, .inl (u1.2.2 1)))]) (va_runVN (host := "KerbSplash") (As := []) (rest := []) ⟨hx, hb, hml, hown, hts⟩ (c_hasMore l hl D cy sa ka H.size) ⟨va_cnB 0 hts gX7_read_X8_hasMore_n24 rfl rfl rfl (nM_StreetReader_24 hG.2.1) ini_RX8 (by decide +kernel) ⟨Nat.le_of_ble_eq_true rfl, Nat.le_of_ble_eq_true rfl⟩, im_X8_hasMore, se_X8_hasMore⟩ ⟨pcW.blind, (va_recv hG.1 hP (ci := 8) (q0 := 1) rfl rfl), (pcW.mk hP hD hS hA hG hT [1] rfl (by decide))⟩ rfl rfl hlv.1 rfl (lv_room (Nat.le_of_ble_eq_true rfl)) dX7_read_19 ⟨Nat.le_of_ble_eq_true rfl, Nat.le_of_ble_eq_true rfl⟩) hP hD hS hA [1] [0, 2, 3, 4] rfl rfl (by decide) (by decide) (fun r2 u2 H locs hw2 hP hD hS => ?_)
  obtain rfl := hw2
  have hP : va_P D vwCl [(h0, .inr (7, [.ref (ka 0), .ref (ka 6)])), ((ka 6), .inr (6, [.int 8, .int 3, .ref (ka 31), .ref (ka 32), .int 0, .int 0, .ref (ka 33), .int 0, .ref (ka 34), .int 0, .int 0, .ref (ka 35), .int 0, .ref (ka 36), .int 0, .int 0, .int 0, .int 0, .int 0])), ((ka 31), .inl (cy 0, 96, .inl (u1.2.2 0))), ((ka 32), .inl (cy 0, 96, .inl (u1.2.2 1))), ((ka 0), .inr (8, [.ref (ka 20), .int 0, .int 0, .int 0, .int 0, .int 0, .int (-1)]))] H := hP
  have hD : va_D A [(h0, .inr (7, [.ref (ka 0), .ref (ka 6)])), ((ka 6), .inr (6, [.int 8, .int 3, .ref (ka 31), .ref (ka 32), .int 0, .int 0, .ref (ka 33), .int 0, .ref (ka 34), .int 0, .int 0, .ref (ka 35), .int 0, .ref (ka 36), .int 0, .int 0, .int 0, .int 0, .int 0])), ((ka 31), .inl (cy 0, 96, .inl (u1.2.2 0))), ((ka 32), .inl (cy 0, 96, .inl (u1.2.2 1))), ((ka 0), .inr (8, [.ref (ka 20), .int 0, .int 0, .int 0, .int 0, .int 0, .int (-1)]))] := hD
  refine lv_if_eq (tgt := 36) hx hb dX7_read_22 (by decide) (fun _ => ?_) (fun c => absurd (by decide) c)
  refine W.widen (k := 0) (n := 0) (Nat.le_of_ble_eq_true rfl) (Nat.le_of_ble_eq_true rfl) ?_
  exact W.vret hx hb hr (fun t ht hW => ⟨⟨((fun k => ([] : List Nat).getD k 0), (fun k => ([] : List Int32).getD k 0), (fun k => ([(u1.2.2 0), (u1.2.2 1)] : List (Nat → Int32)).getD k (fun _ => 0))), rfl, (by first | (trivial)), by rw [ht]; exact hP.sub [4, 1, 2, 3] rfl, hD.sub [4, 1, 2, 3] (by decide) rfl⟩, hS.F ht⟩) hS.2.2 dX7_read_36
set_option maxHeartbeats 4000000 in
set_option maxRecDepth 100000 in
theorem c_preset (l : Launch) (hl : l.stackTraces = false) (D : va_G) (cy : Nat → ClassId) (sa : Nat → Nat) (ka : Nat → Nat) (f0 : Nat → Int32) (sz : Nat) : Met l yX4_reset wsX4_reset ({ frames := 1, cells := 0, slots := 0, locals := 23 }) (va_Pc [.ref (ka 7)] (pcW D cy sa sz [((ka 7), .inr (4, [.int 0, .ref (ka 41), .int 0, .ref (ka 42), .ref (ka 43)])), ((ka 43), .inl (cy 0, 4, .inl f0))])) (va_Qv (fun u : SU => (True)) (fun u t => atW D (va_A [((ka 7), .inr (4, [.int 0, .ref (ka 41), .int 0, .ref (ka 42), .ref (ka 43)])), ((ka 43), .inl (cy 0, 4, .inl f0))] sz) [] t) (va_A [((ka 7), .inr (4, [.int 0, .ref (ka 41), .int 0, .ref (ka 42), .ref (ka 43)])), ((ka 43), .inl (cy 0, 4, .inl f0))] sz)) 0 0 (va_A [((ka 7), .inr (4, [.int 0, .ref (ka 41), .int 0, .ref (ka 42), .ref (ka 43)])), ((ka 43), .inl (cy 0, 4, .inl f0))] sz) := by
  refine Met.ofW (cc := cX4_reset) (maxL := 1) (ret := none) (by decide) rfl ?_
  intro p e s m args below meth c s₁ B hml hv
  obtain ⟨rfl, hsz, hP, hG, hD0, hT⟩ := hv
  have hx := B.exec
  have hb := B.bytes
  have hr := B.returns
  have hts := atoms_spec (ws := wsX4_reset) B.pre
  have hown : s.vm.findClass RX4 = some m.cls := findClass_of_methodNamed B.named
  have hlocks := B.notSynchronized
  subst hsz
  have hD := hD0.self (sz := s.heap.size)
  generalize hAe : va_A [((ka 7), .inr (4, [.int 0, .ref (ka 41), .int 0, .ref (ka 42), .ref (ka 43)])), ((ka 43), .inl (cy 0, 4, .inl f0))] s.heap.size = A at hD hT ⊢
  have hA : ∀ q : Nat, s.heap.size ≤ q → A q := fun q h => by rw [← hAe]; exact Or.inr h
  have hS : va_S A s.heap s.heap [] := va_S.rf
  have hl0 := lv_entry ([.ref (ka 7)]) (n := 1) (Nat.le_of_ble_eq_true rfl)
  rw [lg_entry_eq]
  generalize (lg_sl ([.ref (ka 7)]) ++ List.replicate (1 - (lg_sl ([.ref (ka 7)])).length) Slot.unset).toArray = ls at hl0 ⊢
  have hlv : lv_has ls 1 [(0, .ref (ka 7))] := hl0
  have lf21 := hts (.fieldLink RX4 21 "KerbSplash$Plan" "cars" "I") (by decide +kernel)
  have hi4 : ∀ w ∈ wsX40, w ∈ wsX4_reset := by decide +kernel
  have lf25 := hts (.fieldLink RX4 25 "KerbSplash$Plan" "dips" "I") (by decide +kernel)
  have lf18 := hts (.fieldLink RX4 18 "KerbSplash$Plan" "shares" "[I") (by decide +kernel)
  refine lv_aload_n hx hb dX4_reset_0 rfl (lv_at hlv 0 rfl) ?_
  refine lv_iconst (v := 0) hx hb dX4_reset_1 (by decide) ?_
  refine va_put (D := D) (ci := 4) (v := .int 0) (ty := .int) (C := RX4) (T := TX4) (N := 5) hx hb hts hi4 tyX4 tyX4_ok nmX4 hown hG.1 hP hD hS 0 rfl rfl 0 (by decide) lf21 (fun _ h9 => h9) rfl (by decide +kernel) rfl rfl (Nat.le_of_ble_eq_true rfl) dX4_reset_2 (fun H locs hP hD hS => ?_)
  have hP : va_P D vwCl [((ka 7), .inr (4, [.int 0, .ref (ka 41), .int 0, .ref (ka 42), .ref (ka 43)])), ((ka 43), .inl (cy 0, 4, .inl f0))] H := hP
  have hD : va_D A [((ka 7), .inr (4, [.int 0, .ref (ka 41), .int 0, .ref (ka 42), .ref (ka 43)])), ((ka 43), .inl (cy 0, 4, .inl f0))] := hD
  refine lv_aload_n hx hb dX4_reset_5 rfl (lv_at hlv 0 rfl) ?_
  refine lv_iconst (v := 0) hx hb dX4_reset_6 (by decide) ?_
  refine va_put (D := D) (ci := 4) (v := .int 0) (ty := .int) (C := RX4) (T := TX4) (N := 5) hx hb hts hi4 tyX4 tyX4_ok nmX4 hown hG.1 hP hD hS 0 rfl rfl 2 (by decide) lf25 (fun _ h9 => h9) rfl (by decide +kernel) rfl rfl (Nat.le_of_ble_eq_true rfl) dX4_reset_7 (fun H locs hP hD hS => ?_)
  have hP : va_P D vwCl [((ka 7), .inr (4, [.int 0, .ref (ka 41), .int 0, .ref (ka 42), .ref (ka 43)])), ((ka 43), .inl (cy 0, 4, .inl f0))] H := hP
  have hD : va_D A [((ka 7), .inr (4, [.int 0, .ref (ka 41), .int 0, .ref (ka 42), .ref (ka 43)])), ((ka 43), .inl (cy 0, 4, .inl f0))] := hD
  refine lv_aload_n hx hb dX4_reset_10 rfl (lv_at hlv 0 rfl) ?_
  refine va_get (D := D) (ci := 4) (v := .ref (ka 43)) (C := RX4) (T := TX4) (N := 5) hx hb hts hi4 hown hG.1 hP 0 rfl rfl 4 (by decide) lf18 (fun _ h9 => h9) rfl dX4_reset_11 ?_
  refine lv_iconst (v := 1) hx hb dX4_reset_14 (by decide) ?_
  refine cj_v (wr := [((ka 7), .inr (4, [.int 0, .ref (ka 41), .int 0, .ref (ka 42), .ref (ka 43)]))]) (va_runS (As := [.ref (ka 43), .int 1]) (rest := []) ⟨hx, hb, hml, hown, hts⟩ (c_fill_4 l hl D cy sa (ka 43) 1 f0 H.size) (va_cwS 2 hts gX4_reset_J7_fill_53178 rfl rfl rfl (by decide +kernel) ⟨Nat.le_of_ble_eq_true rfl, Nat.le_of_ble_eq_true rfl⟩) ⟨pcW.blind, (pcW.mk hP hD hS hA hG hT [1] rfl (by decide))⟩ rfl rfl hlv.1 rfl (lv_room (Nat.le_of_ble_eq_true rfl)) dX4_reset_15 ⟨Nat.le_of_ble_eq_true rfl, Nat.le_of_ble_eq_true rfl⟩) hP hD hS hA [1] [0] rfl rfl (by decide) (by decide) (fun u1 H locs hw1 hP hD hS => ?_)
  have hP : va_P D vwCl [((ka 7), .inr (4, [.int 0, .ref (ka 41), .int 0, .ref (ka 42), .ref (ka 43)])), ((ka 43), .inl (cy 0, 4, .inl (u1.2.2 0)))] H := hP
  have hD : va_D A [((ka 7), .inr (4, [.int 0, .ref (ka 41), .int 0, .ref (ka 42), .ref (ka 43)])), ((ka 43), .inl (cy 0, 4, .inl (u1.2.2 0)))] := hD
  refine W.widen (k := 0) (n := 0) (Nat.le_of_ble_eq_true rfl) (Nat.le_of_ble_eq_true rfl) ?_
  exact W.vret hx hb hr (fun t ht hW => ⟨⟨((fun k => ([] : List Nat).getD k 0), (fun k => ([] : List Int32).getD k 0), (fun k => ([] : List (Nat → Int32)).getD k (fun _ => 0))), rfl, (by first | (trivial)), by rw [ht]; exact hP.sub [] rfl, hD.sub [] (by decide) rfl⟩, hS.F ht⟩) hS.2.2 dX4_reset_18
set_option maxHeartbeats 4000000 in
set_option maxRecDepth 100000 in
theorem c_cells24 (l : Launch) (hl : l.stackTraces = false) (D : va_G) (cy : Nat → ClassId) (sa : Nat → Nat) (ka : Nat → Nat) (sz : Nat) : Met l yX6_cells wsX6_cells ({ frames := 0, cells := 0, slots := 0, locals := 0 }) (va_Pc [.ref (ka 6)] (pcW D cy sa sz [((ka 6), .inr (6, [.int 8, .int 3, .ref (ka 31), .ref (ka 32), .int 0, .int 0, .ref (ka 33), .int 0, .ref (ka 34), .int 0, .int 0, .ref (ka 35), .int 0, .ref (ka 36), .int 0, .int 0, .int 0, .int 0, .int 0]))])) (va_Qi (fun (r : Int32) (u : SU) => (r = 24)) (fun u t => atW D (va_A [((ka 6), .inr (6, [.int 8, .int 3, .ref (ka 31), .ref (ka 32), .int 0, .int 0, .ref (ka 33), .int 0, .ref (ka 34), .int 0, .int 0, .ref (ka 35), .int 0, .ref (ka 36), .int 0, .int 0, .int 0, .int 0, .int 0]))] sz) [] t) (va_A [((ka 6), .inr (6, [.int 8, .int 3, .ref (ka 31), .ref (ka 32), .int 0, .int 0, .ref (ka 33), .int 0, .ref (ka 34), .int 0, .int 0, .ref (ka 35), .int 0, .ref (ka 36), .int 0, .int 0, .int 0, .int 0, .int 0]))] sz)) 0 0 (va_A [((ka 6), .inr (6, [.int 8, .int 3, .ref (ka 31), .ref (ka 32), .int 0, .int 0, .ref (ka 33), .int 0, .ref (ka 34), .int 0, .int 0, .ref (ka 35), .int 0, .ref (ka 36), .int 0, .int 0, .int 0, .int 0, .int 0]))] sz) := by
  refine Met.ofW (cc := cX6_cells) (maxL := 1) (ret := (some .int)) (by decide) rfl ?_
  intro p e s m args below meth c s₁ B hml hv
  obtain ⟨rfl, hsz, hP, hG, hD0, hT⟩ := hv
  have hx := B.exec
  have hb := B.bytes
  have hr := B.returns
  have hts := atoms_spec (ws := wsX6_cells) B.pre
  have hown : s.vm.findClass RX6 = some m.cls := findClass_of_methodNamed B.named
  have hlocks := B.notSynchronized
  subst hsz
  have hD := hD0.self (sz := s.heap.size)
  generalize hAe : va_A [((ka 6), .inr (6, [.int 8, .int 3, .ref (ka 31), .ref (ka 32), .int 0, .int 0, .ref (ka 33), .int 0, .ref (ka 34), .int 0, .int 0, .ref (ka 35), .int 0, .ref (ka 36), .int 0, .int 0, .int 0, .int 0, .int 0]))] s.heap.size = A at hD hT ⊢
  have hA : ∀ q : Nat, s.heap.size ≤ q → A q := fun q h => by rw [← hAe]; exact Or.inr h
  have hS : va_S A s.heap s.heap [] := va_S.rf
  have hl0 := lv_entry ([.ref (ka 6)]) (n := 1) (Nat.le_of_ble_eq_true rfl)
  rw [lg_entry_eq]
  generalize (lg_sl ([.ref (ka 6)]) ++ List.replicate (1 - (lg_sl ([.ref (ka 6)])).length) Slot.unset).toArray = ls at hl0 ⊢
  have hlv : lv_has ls 1 [(0, .ref (ka 6))] := hl0
  have lf28 := hts (.fieldLink RX6 28 "KerbSplash$Street" "wide" "I") (by decide +kernel)
  have hi6 : ∀ w ∈ wsX60, w ∈ wsX6_cells := by decide +kernel
  have lf32 := hts (.fieldLink RX6 32 "KerbSplash$Street" "rows" "I") (by decide +kernel)
  refine lv_aload_n hx hb dX6_cells_0 rfl (lv_at hlv 0 rfl) ?_
  refine va_get (D := D) (ci := 6) (v := .int 8) (C := RX6) (T := TX6) (N := 19) hx hb hts hi6 hown hG.1 hP 0 rfl rfl 0 (by decide) lf28 (fun _ h9 => h9) rfl dX6_cells_1 ?_
  refine lv_aload_n hx hb dX6_cells_4 rfl (lv_at hlv 0 rfl) ?_
  refine va_get (D := D) (ci := 6) (v := .int 3) (C := RX6) (T := TX6) (N := 19) hx hb hts hi6 hown hG.1 hP 0 rfl rfl 1 (by decide) lf32 (fun _ h9 => h9) rfl dX6_cells_5 ?_
  refine lv_imul hx hb dX6_cells_8 ?_
  refine lt_i (y := 24) (by decide) ?_
  refine W.widen (k := 0) (n := 0) (Nat.le_of_ble_eq_true rfl) (Nat.le_of_ble_eq_true rfl) ?_
  exact W.iret (v := 24) hx hb hr (fun t ht hW => ⟨⟨24, ((fun k => ([] : List Nat).getD k 0), (fun k => ([] : List Int32).getD k 0), (fun k => ([] : List (Nat → Int32)).getD k (fun _ => 0))), rfl, (by first | (exact (by rfl))), by rw [ht]; exact hP.sub [] rfl, hD.sub [] (by decide) rfl⟩, hS.F ht⟩) hS.2.2 dX6_cells_9
set_option maxHeartbeats 4000000 in
set_option maxRecDepth 100000 in
theorem c_street0 (l : Launch) (hl : l.stackTraces = false) (D : va_G) (cy : Nat → ClassId) (sa : Nat → Nat) (ko : Nat) (ka : Nat → Nat) (f0 f1 f2 : Nat → Int32) (sz : Nat) : Met l yX11_street wsX11_street ({ frames := 3, cells := 1, slots := 2, locals := 64 }) (va_Pc [.ref ko, .int 0] (pcW D cy sa sz [(ko, .inr (11, [.ref (ka 0), .ref (ka 1), .ref (ka 2), .int 0, .int 0, .ref (ka 5), .ref (ka 6), .ref (ka 7), .ref (ka 8), .ref (ka 9), .int 0, .ref (ka 11), .ref (ka 12), .ref (ka 13)])), ((ka 0), .inr (8, [.ref (ka 20), .int 0, .int 0, .int 0, .int 0, .int 0, .int (-1)])), ((ka 6), .inr (6, [.int 0, .int 0, .ref (ka 31), .ref (ka 32), .int 0, .int 0, .ref (ka 33), .int 0, .ref (ka 34), .int 0, .int 0, .ref (ka 35), .int 0, .ref (ka 36), .int 0, .int 0, .int 0, .int 0, .int 0])), ((ka 31), .inl (cy 0, 96, .inl f0)), ((ka 32), .inl (cy 0, 96, .inl f1)), ((ka 7), .inr (4, [.int 0, .ref (ka 41), .int 0, .ref (ka 42), .ref (ka 43)])), ((ka 43), .inl (cy 0, 4, .inl f2))])) (va_Qi (fun (r : Int32) (u : SU) => (r = 24)) (fun u t => atW D (va_A [(ko, .inr (11, [.ref (ka 0), .ref (ka 1), .ref (ka 2), .int 0, .int 0, .ref (ka 5), .ref (ka 6), .ref (ka 7), .ref (ka 8), .ref (ka 9), .int 0, .ref (ka 11), .ref (ka 12), .ref (ka 13)])), ((ka 0), .inr (8, [.ref (ka 20), .int 0, .int 0, .int 0, .int 0, .int 0, .int (-1)])), ((ka 6), .inr (6, [.int 0, .int 0, .ref (ka 31), .ref (ka 32), .int 0, .int 0, .ref (ka 33), .int 0, .ref (ka 34), .int 0, .int 0, .ref (ka 35), .int 0, .ref (ka 36), .int 0, .int 0, .int 0, .int 0, .int 0])), ((ka 31), .inl (cy 0, 96, .inl f0)), ((ka 32), .inl (cy 0, 96, .inl f1)), ((ka 7), .inr (4, [.int 0, .ref (ka 41), .int 0, .ref (ka 42), .ref (ka 43)])), ((ka 43), .inl (cy 0, 4, .inl f2))] sz) [] t) (va_A [(ko, .inr (11, [.ref (ka 0), .ref (ka 1), .ref (ka 2), .int 0, .int 0, .ref (ka 5), .ref (ka 6), .ref (ka 7), .ref (ka 8), .ref (ka 9), .int 0, .ref (ka 11), .ref (ka 12), .ref (ka 13)])), ((ka 0), .inr (8, [.ref (ka 20), .int 0, .int 0, .int 0, .int 0, .int 0, .int (-1)])), ((ka 6), .inr (6, [.int 0, .int 0, .ref (ka 31), .ref (ka 32), .int 0, .int 0, .ref (ka 33), .int 0, .ref (ka 34), .int 0, .int 0, .ref (ka 35), .int 0, .ref (ka 36), .int 0, .int 0, .int 0, .int 0, .int 0])), ((ka 31), .inl (cy 0, 96, .inl f0)), ((ka 32), .inl (cy 0, 96, .inl f1)), ((ka 7), .inr (4, [.int 0, .ref (ka 41), .int 0, .ref (ka 42), .ref (ka 43)])), ((ka 43), .inl (cy 0, 4, .inl f2))] sz)) 1 2 (va_A [(ko, .inr (11, [.ref (ka 0), .ref (ka 1), .ref (ka 2), .int 0, .int 0, .ref (ka 5), .ref (ka 6), .ref (ka 7), .ref (ka 8), .ref (ka 9), .int 0, .ref (ka 11), .ref (ka 12), .ref (ka 13)])), ((ka 0), .inr (8, [.ref (ka 20), .int 0, .int 0, .int 0, .int 0, .int 0, .int (-1)])), ((ka 6), .inr (6, [.int 0, .int 0, .ref (ka 31), .ref (ka 32), .int 0, .int 0, .ref (ka 33), .int 0, .ref (ka 34), .int 0, .int 0, .ref (ka 35), .int 0, .ref (ka 36), .int 0, .int 0, .int 0, .int 0, .int 0])), ((ka 31), .inl (cy 0, 96, .inl f0)), ((ka 32), .inl (cy 0, 96, .inl f1)), ((ka 7), .inr (4, [.int 0, .ref (ka 41), .int 0, .ref (ka 42), .ref (ka 43)])), ((ka 43), .inl (cy 0, 4, .inl f2))] sz) := by
  refine Met.ofW (cc := cX11_street) (maxL := 3) (ret := (some .int)) (by decide) rfl ?_
  intro p e s m args below meth c s₁ B hml hv
  obtain ⟨rfl, hsz, hP, hG, hD0, hT⟩ := hv
  have hx := B.exec
  have hb := B.bytes
  have hr := B.returns
  have hts := atoms_spec (ws := wsX11_street) B.pre
  have hown : s.vm.findClass RX11 = some m.cls := findClass_of_methodNamed B.named
  have hlocks := B.notSynchronized
  subst hsz
  have hD := hD0.self (sz := s.heap.size)
  generalize hAe : va_A [(ko, .inr (11, [.ref (ka 0), .ref (ka 1), .ref (ka 2), .int 0, .int 0, .ref (ka 5), .ref (ka 6), .ref (ka 7), .ref (ka 8), .ref (ka 9), .int 0, .ref (ka 11), .ref (ka 12), .ref (ka 13)])), ((ka 0), .inr (8, [.ref (ka 20), .int 0, .int 0, .int 0, .int 0, .int 0, .int (-1)])), ((ka 6), .inr (6, [.int 0, .int 0, .ref (ka 31), .ref (ka 32), .int 0, .int 0, .ref (ka 33), .int 0, .ref (ka 34), .int 0, .int 0, .ref (ka 35), .int 0, .ref (ka 36), .int 0, .int 0, .int 0, .int 0, .int 0])), ((ka 31), .inl (cy 0, 96, .inl f0)), ((ka 32), .inl (cy 0, 96, .inl f1)), ((ka 7), .inr (4, [.int 0, .ref (ka 41), .int 0, .ref (ka 42), .ref (ka 43)])), ((ka 43), .inl (cy 0, 4, .inl f2))] s.heap.size = A at hD hT ⊢
  have hA : ∀ q : Nat, s.heap.size ≤ q → A q := fun q h => by rw [← hAe]; exact Or.inr h
  have hS : va_S A s.heap s.heap [] := va_S.rf
  have hl0 := lv_entry ([.ref ko, .int 0]) (n := 3) (Nat.le_of_ble_eq_true rfl)
  rw [lg_entry_eq]
  generalize (lg_sl ([.ref ko, .int 0]) ++ List.replicate (3 - (lg_sl ([.ref ko, .int 0])).length) Slot.unset).toArray = ls at hl0 ⊢
  have hlv : lv_has ls 3 [(0, .ref ko), (1, .int 0)] := hl0
  have cl88 := hts (.classLink RX11 88 RX7) (by decide +kernel)
  have in7 := hts (.instantiable RX7 2) (by decide +kernel)
  have ini7 := hts (.initialized RX7) (by decide +kernel)
  have hi7 : ∀ w ∈ wsX70, w ∈ wsX11_street := by decide +kernel
  have lf10 := hts (.fieldLink RX11 10 "KerbSplash" "tape" "LKerbSplash$Tape;") (by decide +kernel)
  have hi11 : ∀ w ∈ wsX110, w ∈ wsX11_street := by decide +kernel
  have lf35 := hts (.fieldLink RX11 35 "KerbSplash" "draft" "LKerbSplash$Street;") (by decide +kernel)
  have ini_RX7 := hts (.initialized RX7) (by decide +kernel)
  have im_X7_init := hts (.instanceMethod yX7_init) (by decide +kernel)
  have im_X7_read := hts (.instanceMethod yX7_read) (by decide +kernel)
  have se_X7_read := hts (.selects RX7 yX7_read yX7_read) (by decide +kernel)
  have ini_RX8 := hts (.initialized RX8) (by decide +kernel)
  have im_X8_good := hts (.instanceMethod yX8_good) (by decide +kernel)
  have se_X8_good := hts (.selects RX8 yX8_good yX8_good) (by decide +kernel)
  have lf31 := hts (.fieldLink RX11 31 "KerbSplash" "now" "LKerbSplash$Street;") (by decide +kernel)
  have lf41 := hts (.fieldLink RX11 41 "KerbSplash" "plan" "LKerbSplash$Plan;") (by decide +kernel)
  have ini_RX4 := hts (.initialized RX4) (by decide +kernel)
  have im_X4_reset := hts (.instanceMethod yX4_reset) (by decide +kernel)
  have se_X4_reset := hts (.selects RX4 yX4_reset yX4_reset) (by decide +kernel)
  have lf105 := hts (.fieldLink RX11 105 "KerbSplash" "images" "I") (by decide +kernel)
  have ini_RX6 := hts (.initialized RX6) (by decide +kernel)
  have im_X6_cells := hts (.instanceMethod yX6_cells) (by decide +kernel)
  have se_X6_cells := hts (.selects RX6 yX6_cells yX6_cells) (by decide +kernel)
  refine lv_aload_n hx hb dX11_street_0 rfl (lv_at hlv 0 rfl) ?_
  refine lv_iload_n hx hb dX11_street_1 rfl (lv_at hlv 1 rfl) ?_
  refine cj_v (wr := [((ka 6), .inr (6, [.int 0, .int 0, .ref (ka 31), .ref (ka 32), .int 0, .int 0, .ref (ka 33), .int 0, .ref (ka 34), .int 0, .int 0, .ref (ka 35), .int 0, .ref (ka 36), .int 0, .int 0, .int 0, .int 0, .int 0])), ((ka 31), .inl (cy 0, 96, .inl f0)), ((ka 32), .inl (cy 0, 96, .inl f1)), ((ka 7), .inr (4, [.int 0, .ref (ka 41), .int 0, .ref (ka 42), .ref (ka 43)])), ((ka 43), .inl (cy 0, 4, .inl f2))]) (va_runV (As := [.int 0]) (rest := []) ⟨hx, hb, hml, hown, hts⟩ (c_beginText0 l hl D cy sa ko ka s.heap.size) (cwV 1 hts gX11_street_X11_beginText rfl rfl rfl (by decide +kernel) ⟨Nat.le_of_ble_eq_true rfl, Nat.le_of_ble_eq_true rfl⟩) ⟨pcW.blind, (va_recv hG.1 hP (ci := 11) (q0 := 0) rfl rfl), (pcW.mk hP hD hS hA hG hT [0, 1] rfl (by decide))⟩ rfl rfl hlv.1 rfl (lv_room (Nat.le_of_ble_eq_true rfl)) dX11_street_2 ⟨Nat.le_of_ble_eq_true rfl, Nat.le_of_ble_eq_true rfl⟩) hP hD hS hA [0, 1] [2, 3, 4, 5, 6] rfl rfl (by decide) (by decide) (fun u1 H locs hw1 hP hD hS => ?_)
  have hP : va_P D vwCl [((ka 6), .inr (6, [.int 0, .int 0, .ref (ka 31), .ref (ka 32), .int 0, .int 0, .ref (ka 33), .int 0, .ref (ka 34), .int 0, .int 0, .ref (ka 35), .int 0, .ref (ka 36), .int 0, .int 0, .int 0, .int 0, .int 0])), ((ka 31), .inl (cy 0, 96, .inl f0)), ((ka 32), .inl (cy 0, 96, .inl f1)), ((ka 7), .inr (4, [.int 0, .ref (ka 41), .int 0, .ref (ka 42), .ref (ka 43)])), ((ka 43), .inl (cy 0, 4, .inl f2)), (ko, .inr (11, [.ref (ka 0), .ref (ka 1), .ref (ka 2), .int 0, .int 0, .ref (ka 5), .ref (ka 6), .ref (ka 7), .ref (ka 8), .ref (ka 9), .int 0, .ref (ka 11), .ref (ka 12), .ref (ka 13)])), ((ka 0), .inr (8, [.ref (ka 20), .int 0, .int 0, .int 0, .int 0, .int 0, .int (-1)]))] H := hP
  have hD : va_D A [((ka 6), .inr (6, [.int 0, .int 0, .ref (ka 31), .ref (ka 32), .int 0, .int 0, .ref (ka 33), .int 0, .ref (ka 34), .int 0, .int 0, .ref (ka 35), .int 0, .ref (ka 36), .int 0, .int 0, .int 0, .int 0, .int 0])), ((ka 31), .inl (cy 0, 96, .inl f0)), ((ka 32), .inl (cy 0, 96, .inl f1)), ((ka 7), .inr (4, [.int 0, .ref (ka 41), .int 0, .ref (ka 42), .ref (ka 43)])), ((ka 43), .inl (cy 0, 4, .inl f2)), (ko, .inr (11, [.ref (ka 0), .ref (ka 1), .ref (ka 2), .int 0, .int 0, .ref (ka 5), .ref (ka 6), .ref (ka 7), .ref (ka 8), .ref (ka 9), .int 0, .ref (ka 11), .ref (ka 12), .ref (ka 13)])), ((ka 0), .inr (8, [.ref (ka 20), .int 0, .int 0, .int 0, .int 0, .int 0, .int (-1)]))] := hD
  refine va_new (ci := 7) (fs := [.null, .null]) (C := RX7) (T := TX7) (N := 2) hx hb hts hi7 tyX7 tyX7_ok hown cl88 in7 ini7 hG.1 hP hD hS hA rfl (by decide) (Nat.le_of_ble_eq_true rfl) (Nat.le_of_ble_eq_true rfl) dX11_street_5 (fun q_1 H hP hD hS => ?_)
  have hP : va_P D vwCl [((ka 6), .inr (6, [.int 0, .int 0, .ref (ka 31), .ref (ka 32), .int 0, .int 0, .ref (ka 33), .int 0, .ref (ka 34), .int 0, .int 0, .ref (ka 35), .int 0, .ref (ka 36), .int 0, .int 0, .int 0, .int 0, .int 0])), ((ka 31), .inl (cy 0, 96, .inl f0)), ((ka 32), .inl (cy 0, 96, .inl f1)), ((ka 7), .inr (4, [.int 0, .ref (ka 41), .int 0, .ref (ka 42), .ref (ka 43)])), ((ka 43), .inl (cy 0, 4, .inl f2)), (ko, .inr (11, [.ref (ka 0), .ref (ka 1), .ref (ka 2), .int 0, .int 0, .ref (ka 5), .ref (ka 6), .ref (ka 7), .ref (ka 8), .ref (ka 9), .int 0, .ref (ka 11), .ref (ka 12), .ref (ka 13)])), ((ka 0), .inr (8, [.ref (ka 20), .int 0, .int 0, .int 0, .int 0, .int 0, .int (-1)])), (q_1, .inr (7, [.null, .null]))] H := hP
  have hD : va_D A [((ka 6), .inr (6, [.int 0, .int 0, .ref (ka 31), .ref (ka 32), .int 0, .int 0, .ref (ka 33), .int 0, .ref (ka 34), .int 0, .int 0, .ref (ka 35), .int 0, .ref (ka 36), .int 0, .int 0, .int 0, .int 0, .int 0])), ((ka 31), .inl (cy 0, 96, .inl f0)), ((ka 32), .inl (cy 0, 96, .inl f1)), ((ka 7), .inr (4, [.int 0, .ref (ka 41), .int 0, .ref (ka 42), .ref (ka 43)])), ((ka 43), .inl (cy 0, 4, .inl f2)), (ko, .inr (11, [.ref (ka 0), .ref (ka 1), .ref (ka 2), .int 0, .int 0, .ref (ka 5), .ref (ka 6), .ref (ka 7), .ref (ka 8), .ref (ka 9), .int 0, .ref (ka 11), .ref (ka 12), .ref (ka 13)])), ((ka 0), .inr (8, [.ref (ka 20), .int 0, .int 0, .int 0, .int 0, .int 0, .int (-1)])), (q_1, .inr (7, [.null, .null]))] := hD
  refine lv_dup hx hb dX11_street_8 rfl ?_
  refine lv_aload_n hx hb dX11_street_9 rfl (lv_at hlv 0 rfl) ?_
  refine va_get (D := D) (ci := 11) (v := .ref (ka 0)) (C := RX11) (T := TX11) (N := 14) hx hb hts hi11 hown hG.1 hP 5 rfl rfl 0 (by decide) lf10 (fun _ h9 => h9) rfl dX11_street_10 ?_
  refine lv_aload_n hx hb dX11_street_13 rfl (lv_at hlv 0 rfl) ?_
  refine va_get (D := D) (ci := 11) (v := .ref (ka 6)) (C := RX11) (T := TX11) (N := 14) hx hb hts hi11 hown hG.1 hP 5 rfl rfl 6 (by decide) lf35 (fun _ h9 => h9) rfl dX11_street_14 ?_
  refine cj_v (wr := [((ka 6), .inr (6, [.int 0, .int 0, .ref (ka 31), .ref (ka 32), .int 0, .int 0, .ref (ka 33), .int 0, .ref (ka 34), .int 0, .int 0, .ref (ka 35), .int 0, .ref (ka 36), .int 0, .int 0, .int 0, .int 0, .int 0])), ((ka 31), .inl (cy 0, 96, .inl f0)), ((ka 32), .inl (cy 0, 96, .inl f1)), ((ka 7), .inr (4, [.int 0, .ref (ka 41), .int 0, .ref (ka 42), .ref (ka 43)])), ((ka 43), .inl (cy 0, 4, .inl f2)), (ko, .inr (11, [.ref (ka 0), .ref (ka 1), .ref (ka 2), .int 0, .int 0, .ref (ka 5), .ref (ka 6), .ref (ka 7), .ref (ka 8), .ref (ka 9), .int 0, .ref (ka 11), .ref (ka 12), .ref (ka 13)])), ((ka 0), .inr (8, [.ref (ka 20), .int 0, .int 0, .int 0, .int 0, .int 0, .int (-1)]))]) (va_runIN (host := "KerbSplash") (As := [.ref (ka 0), .ref (ka 6)]) (rest := [.ref q_1]) ⟨hx, hb, hml, hown, hts⟩ (c_rdinit l hl D cy sa q_1 (ka 0) (ka 6) H.size) ⟨va_cnB 2 hts gX11_street_X7_init_n90 rfl rfl rfl (nM_K_90 hG.2.1) ini_RX7 (by decide +kernel) ⟨Nat.le_of_ble_eq_true rfl, Nat.le_of_ble_eq_true rfl⟩, rfl, im_X7_init⟩ ⟨pcW.blind, (pcW.mk hP hD hS hA hG hT [7] rfl (by decide))⟩ rfl rfl hlv.1 rfl (lv_room (Nat.le_of_ble_eq_true rfl)) dX11_street_17 ⟨Nat.le_of_ble_eq_true rfl, Nat.le_of_ble_eq_true rfl⟩) hP hD hS hA [7] [0, 1, 2, 3, 4, 5, 6] rfl rfl (by decide) (by decide) (fun u2 H locs hw2 hP hD hS => ?_)
  have hP : va_P D vwCl [((ka 6), .inr (6, [.int 0, .int 0, .ref (ka 31), .ref (ka 32), .int 0, .int 0, .ref (ka 33), .int 0, .ref (ka 34), .int 0, .int 0, .ref (ka 35), .int 0, .ref (ka 36), .int 0, .int 0, .int 0, .int 0, .int 0])), ((ka 31), .inl (cy 0, 96, .inl f0)), ((ka 32), .inl (cy 0, 96, .inl f1)), ((ka 7), .inr (4, [.int 0, .ref (ka 41), .int 0, .ref (ka 42), .ref (ka 43)])), ((ka 43), .inl (cy 0, 4, .inl f2)), (ko, .inr (11, [.ref (ka 0), .ref (ka 1), .ref (ka 2), .int 0, .int 0, .ref (ka 5), .ref (ka 6), .ref (ka 7), .ref (ka 8), .ref (ka 9), .int 0, .ref (ka 11), .ref (ka 12), .ref (ka 13)])), ((ka 0), .inr (8, [.ref (ka 20), .int 0, .int 0, .int 0, .int 0, .int 0, .int (-1)])), (q_1, .inr (7, [.ref (ka 0), .ref (ka 6)]))] H := hP
  have hD : va_D A [((ka 6), .inr (6, [.int 0, .int 0, .ref (ka 31), .ref (ka 32), .int 0, .int 0, .ref (ka 33), .int 0, .ref (ka 34), .int 0, .int 0, .ref (ka 35), .int 0, .ref (ka 36), .int 0, .int 0, .int 0, .int 0, .int 0])), ((ka 31), .inl (cy 0, 96, .inl f0)), ((ka 32), .inl (cy 0, 96, .inl f1)), ((ka 7), .inr (4, [.int 0, .ref (ka 41), .int 0, .ref (ka 42), .ref (ka 43)])), ((ka 43), .inl (cy 0, 4, .inl f2)), (ko, .inr (11, [.ref (ka 0), .ref (ka 1), .ref (ka 2), .int 0, .int 0, .ref (ka 5), .ref (ka 6), .ref (ka 7), .ref (ka 8), .ref (ka 9), .int 0, .ref (ka 11), .ref (ka 12), .ref (ka 13)])), ((ka 0), .inr (8, [.ref (ka 20), .int 0, .int 0, .int 0, .int 0, .int 0, .int (-1)])), (q_1, .inr (7, [.ref (ka 0), .ref (ka 6)]))] := hD
  refine cj_v (wr := [((ka 7), .inr (4, [.int 0, .ref (ka 41), .int 0, .ref (ka 42), .ref (ka 43)])), ((ka 43), .inl (cy 0, 4, .inl f2)), (ko, .inr (11, [.ref (ka 0), .ref (ka 1), .ref (ka 2), .int 0, .int 0, .ref (ka 5), .ref (ka 6), .ref (ka 7), .ref (ka 8), .ref (ka 9), .int 0, .ref (ka 11), .ref (ka 12), .ref (ka 13)]))]) (va_runVN (host := "KerbSplash") (As := []) (rest := []) ⟨hx, hb, hml, hown, hts⟩ (c_rdread l hl D cy sa q_1 ka f0 f1 H.size) ⟨va_cnB 0 hts gX11_street_X7_read_n93 rfl rfl rfl (nM_K_93 hG.2.1) ini_RX7 (by decide +kernel) ⟨Nat.le_of_ble_eq_true rfl, Nat.le_of_ble_eq_true rfl⟩, im_X7_read, se_X7_read⟩ ⟨pcW.blind, (va_recv hG.1 hP (ci := 7) (q0 := 7) rfl rfl), (pcW.mk hP hD hS hA hG hT [7, 6, 0, 1, 2] rfl (by decide))⟩ rfl rfl hlv.1 rfl (lv_room (Nat.le_of_ble_eq_true rfl)) dX11_street_20 ⟨Nat.le_of_ble_eq_true rfl, Nat.le_of_ble_eq_true rfl⟩) hP hD hS hA [7, 6, 0, 1, 2] [3, 4, 5] rfl rfl (by decide) (by decide) (fun u3 H locs hw3 hP hD hS => ?_)
  have hP : va_P D vwCl [((ka 7), .inr (4, [.int 0, .ref (ka 41), .int 0, .ref (ka 42), .ref (ka 43)])), ((ka 43), .inl (cy 0, 4, .inl f2)), (ko, .inr (11, [.ref (ka 0), .ref (ka 1), .ref (ka 2), .int 0, .int 0, .ref (ka 5), .ref (ka 6), .ref (ka 7), .ref (ka 8), .ref (ka 9), .int 0, .ref (ka 11), .ref (ka 12), .ref (ka 13)])), ((ka 0), .inr (8, [.ref (ka 20), .int 0, .int 0, .int 0, .int 0, .int 0, .int (-1)])), ((ka 6), .inr (6, [.int 8, .int 3, .ref (ka 31), .ref (ka 32), .int 0, .int 0, .ref (ka 33), .int 0, .ref (ka 34), .int 0, .int 0, .ref (ka 35), .int 0, .ref (ka 36), .int 0, .int 0, .int 0, .int 0, .int 0])), ((ka 31), .inl (cy 0, 96, .inl (u3.2.2 0))), ((ka 32), .inl (cy 0, 96, .inl (u3.2.2 1)))] H := hP
  have hD : va_D A [((ka 7), .inr (4, [.int 0, .ref (ka 41), .int 0, .ref (ka 42), .ref (ka 43)])), ((ka 43), .inl (cy 0, 4, .inl f2)), (ko, .inr (11, [.ref (ka 0), .ref (ka 1), .ref (ka 2), .int 0, .int 0, .ref (ka 5), .ref (ka 6), .ref (ka 7), .ref (ka 8), .ref (ka 9), .int 0, .ref (ka 11), .ref (ka 12), .ref (ka 13)])), ((ka 0), .inr (8, [.ref (ka 20), .int 0, .int 0, .int 0, .int 0, .int 0, .int (-1)])), ((ka 6), .inr (6, [.int 8, .int 3, .ref (ka 31), .ref (ka 32), .int 0, .int 0, .ref (ka 33), .int 0, .ref (ka 34), .int 0, .int 0, .ref (ka 35), .int 0, .ref (ka 36), .int 0, .int 0, .int 0, .int 0, .int 0])), ((ka 31), .inl (cy 0, 96, .inl (u3.2.2 0))), ((ka 32), .inl (cy 0, 96, .inl (u3.2.2 1)))] := hD
  refine lv_aload_n hx hb dX11_street_23 rfl (lv_at hlv 0 rfl) ?_
  refine va_get (D := D) (ci := 11) (v := .ref (ka 0)) (C := RX11) (T := TX11) (N := 14) hx hb hts hi11 hown hG.1 hP 2 rfl rfl 0 (by decide) lf10 (fun _ h9 => h9) rfl dX11_street_24 ?_
  refine cj_i (wr := [((ka 7), .inr (4, [.int 0, .ref (ka 41), .int 0, .ref (ka 42), .ref (ka 43)])), ((ka 43), .inl (cy 0, 4, .inl f2)), (ko, .inr (11, [.ref (ka 0), .ref (ka 1), .ref (ka 2), .int 0, .int 0, .ref (ka 5), .ref (ka 6), .ref (ka 7), .ref (ka 8), .ref (ka 9), .int 0, .ref (ka 11), .ref (ka 12), .ref (ka 13)])), ((ka 6), .inr (6, [.int 8, .int 3, .ref (ka 31), .ref (ka 32), .int 0, .int 0, .ref (ka 33), .int 0, .ref (ka 34), .int 0, .int 0, .ref (ka 35), .int 0, .ref (ka 36), .int 0, .int 0, .int 0, .int 0, .int 0])), ((ka 31), .inl (cy 0, 96, .inl (u3.2.2 0))), ((ka 32), .inl (cy 0, 96, .inl (u3.2.2 1)))]) (va_runVN (host := "KerbSplash") (As := []) (rest := []) ⟨hx, hb, hml, hown, hts⟩ (c_good l hl D cy sa ka H.size) ⟨va_cnB 0 hts gX11_street_X8_good_n96 rfl rfl rfl (nM_K_96 hG.2.1) ini_RX8 (by decide +kernel) ⟨Nat.le_of_ble_eq_true rfl, Nat.le_of_ble_eq_true rfl⟩, im_X8_good, se_X8_good⟩ ⟨pcW.blind, (va_recv hG.1 hP (ci := 8) (q0 := 3) rfl rfl), (pcW.mk hP hD hS hA hG hT [3] rfl (by decide))⟩ rfl rfl hlv.1 rfl (lv_room (Nat.le_of_ble_eq_true rfl)) dX11_street_27 ⟨Nat.le_of_ble_eq_true rfl, Nat.le_of_ble_eq_true rfl⟩) hP hD hS hA [3] [0, 1, 2, 4, 5, 6] rfl rfl (by decide) (by decide) (fun r4 u4 H locs hw4 hP hD hS => ?_)
  obtain rfl := hw4
  have hP : va_P D vwCl [((ka 7), .inr (4, [.int 0, .ref (ka 41), .int 0, .ref (ka 42), .ref (ka 43)])), ((ka 43), .inl (cy 0, 4, .inl f2)), (ko, .inr (11, [.ref (ka 0), .ref (ka 1), .ref (ka 2), .int 0, .int 0, .ref (ka 5), .ref (ka 6), .ref (ka 7), .ref (ka 8), .ref (ka 9), .int 0, .ref (ka 11), .ref (ka 12), .ref (ka 13)])), ((ka 6), .inr (6, [.int 8, .int 3, .ref (ka 31), .ref (ka 32), .int 0, .int 0, .ref (ka 33), .int 0, .ref (ka 34), .int 0, .int 0, .ref (ka 35), .int 0, .ref (ka 36), .int 0, .int 0, .int 0, .int 0, .int 0])), ((ka 31), .inl (cy 0, 96, .inl (u3.2.2 0))), ((ka 32), .inl (cy 0, 96, .inl (u3.2.2 1))), ((ka 0), .inr (8, [.ref (ka 20), .int 0, .int 0, .int 0, .int 0, .int 0, .int (-1)]))] H := hP
  have hD : va_D A [((ka 7), .inr (4, [.int 0, .ref (ka 41), .int 0, .ref (ka 42), .ref (ka 43)])), ((ka 43), .inl (cy 0, 4, .inl f2)), (ko, .inr (11, [.ref (ka 0), .ref (ka 1), .ref (ka 2), .int 0, .int 0, .ref (ka 5), .ref (ka 6), .ref (ka 7), .ref (ka 8), .ref (ka 9), .int 0, .ref (ka 11), .ref (ka 12), .ref (ka 13)])), ((ka 6), .inr (6, [.int 8, .int 3, .ref (ka 31), .ref (ka 32), .int 0, .int 0, .ref (ka 33), .int 0, .ref (ka 34), .int 0, .int 0, .ref (ka 35), .int 0, .ref (ka 36), .int 0, .int 0, .int 0, .int 0, .int 0])), ((ka 31), .inl (cy 0, 96, .inl (u3.2.2 0))), ((ka 32), .inl (cy 0, 96, .inl (u3.2.2 1))), ((ka 0), .inr (8, [.ref (ka 20), .int 0, .int 0, .int 0, .int 0, .int 0, .int (-1)]))] := hD
  refine lv_if_ne (tgt := 44) hx hb dX11_street_30 (by decide) (fun _ => ?_) (fun c => absurd c (by decide))
  refine lv_aload_n hx hb dX11_street_44 rfl (lv_at hlv 0 rfl) ?_
  refine va_get (D := D) (ci := 11) (v := .ref (ka 5)) (C := RX11) (T := TX11) (N := 14) hx hb hts hi11 hown hG.1 hP 2 rfl rfl 5 (by decide) lf31 (fun _ h9 => h9) rfl dX11_street_45 ?_
  refine lv_astore_n (lv' := [(2, .ref (ka 5)), (0, .ref ko), (1, .int 0)]) hx hb dX11_street_48 rfl hlv (by decide) rfl (fun ls hlv => ?_)
  refine lv_aload_n hx hb dX11_street_49 rfl (lv_at hlv 1 rfl) ?_
  refine lv_aload_n hx hb dX11_street_50 rfl (lv_at hlv 1 rfl) ?_
  refine va_get (D := D) (ci := 11) (v := .ref (ka 6)) (C := RX11) (T := TX11) (N := 14) hx hb hts hi11 hown hG.1 hP 2 rfl rfl 6 (by decide) lf35 (fun _ h9 => h9) rfl dX11_street_51 ?_
  refine va_put (D := D) (ci := 11) (v := .ref (ka 6)) (ty := .object "KerbSplash$Street") (C := RX11) (T := TX11) (N := 14) hx hb hts hi11 tyX11 tyX11_ok nmX11 hown hG.1 hP hD hS 2 rfl rfl 5 (by decide) lf31 (fun _ h9 => h9) rfl (by decide +kernel) rfl rfl (Nat.le_of_ble_eq_true rfl) dX11_street_54 (fun H locs hP hD hS => ?_)
  have hP : va_P D vwCl [((ka 7), .inr (4, [.int 0, .ref (ka 41), .int 0, .ref (ka 42), .ref (ka 43)])), ((ka 43), .inl (cy 0, 4, .inl f2)), (ko, .inr (11, [.ref (ka 0), .ref (ka 1), .ref (ka 2), .int 0, .int 0, .ref (ka 6), .ref (ka 6), .ref (ka 7), .ref (ka 8), .ref (ka 9), .int 0, .ref (ka 11), .ref (ka 12), .ref (ka 13)])), ((ka 6), .inr (6, [.int 8, .int 3, .ref (ka 31), .ref (ka 32), .int 0, .int 0, .ref (ka 33), .int 0, .ref (ka 34), .int 0, .int 0, .ref (ka 35), .int 0, .ref (ka 36), .int 0, .int 0, .int 0, .int 0, .int 0])), ((ka 31), .inl (cy 0, 96, .inl (u3.2.2 0))), ((ka 32), .inl (cy 0, 96, .inl (u3.2.2 1))), ((ka 0), .inr (8, [.ref (ka 20), .int 0, .int 0, .int 0, .int 0, .int 0, .int (-1)]))] H := hP
  have hD : va_D A [((ka 7), .inr (4, [.int 0, .ref (ka 41), .int 0, .ref (ka 42), .ref (ka 43)])), ((ka 43), .inl (cy 0, 4, .inl f2)), (ko, .inr (11, [.ref (ka 0), .ref (ka 1), .ref (ka 2), .int 0, .int 0, .ref (ka 6), .ref (ka 6), .ref (ka 7), .ref (ka 8), .ref (ka 9), .int 0, .ref (ka 11), .ref (ka 12), .ref (ka 13)])), ((ka 6), .inr (6, [.int 8, .int 3, .ref (ka 31), .ref (ka 32), .int 0, .int 0, .ref (ka 33), .int 0, .ref (ka 34), .int 0, .int 0, .ref (ka 35), .int 0, .ref (ka 36), .int 0, .int 0, .int 0, .int 0, .int 0])), ((ka 31), .inl (cy 0, 96, .inl (u3.2.2 0))), ((ka 32), .inl (cy 0, 96, .inl (u3.2.2 1))), ((ka 0), .inr (8, [.ref (ka 20), .int 0, .int 0, .int 0, .int 0, .int 0, .int (-1)]))] := hD
  refine lv_aload_n hx hb dX11_street_57 rfl (lv_at hlv 1 rfl) ?_
  refine lv_aload_n hx hb dX11_street_58 rfl (lv_at hlv 0 rfl) ?_
  refine va_put (D := D) (ci := 11) (v := .ref (ka 5)) (ty := .object "KerbSplash$Street") (C := RX11) (T := TX11) (N := 14) hx hb hts hi11 tyX11 tyX11_ok nmX11 hown hG.1 hP hD hS 2 rfl rfl 6 (by decide) lf35 (fun _ h9 => h9) rfl (by decide +kernel) rfl rfl (Nat.le_of_ble_eq_true rfl) dX11_street_59 (fun H locs hP hD hS => ?_)
  have hP : va_P D vwCl [((ka 7), .inr (4, [.int 0, .ref (ka 41), .int 0, .ref (ka 42), .ref (ka 43)])), ((ka 43), .inl (cy 0, 4, .inl f2)), (ko, .inr (11, [.ref (ka 0), .ref (ka 1), .ref (ka 2), .int 0, .int 0, .ref (ka 6), .ref (ka 5), .ref (ka 7), .ref (ka 8), .ref (ka 9), .int 0, .ref (ka 11), .ref (ka 12), .ref (ka 13)])), ((ka 6), .inr (6, [.int 8, .int 3, .ref (ka 31), .ref (ka 32), .int 0, .int 0, .ref (ka 33), .int 0, .ref (ka 34), .int 0, .int 0, .ref (ka 35), .int 0, .ref (ka 36), .int 0, .int 0, .int 0, .int 0, .int 0])), ((ka 31), .inl (cy 0, 96, .inl (u3.2.2 0))), ((ka 32), .inl (cy 0, 96, .inl (u3.2.2 1))), ((ka 0), .inr (8, [.ref (ka 20), .int 0, .int 0, .int 0, .int 0, .int 0, .int (-1)]))] H := hP
  have hD : va_D A [((ka 7), .inr (4, [.int 0, .ref (ka 41), .int 0, .ref (ka 42), .ref (ka 43)])), ((ka 43), .inl (cy 0, 4, .inl f2)), (ko, .inr (11, [.ref (ka 0), .ref (ka 1), .ref (ka 2), .int 0, .int 0, .ref (ka 6), .ref (ka 5), .ref (ka 7), .ref (ka 8), .ref (ka 9), .int 0, .ref (ka 11), .ref (ka 12), .ref (ka 13)])), ((ka 6), .inr (6, [.int 8, .int 3, .ref (ka 31), .ref (ka 32), .int 0, .int 0, .ref (ka 33), .int 0, .ref (ka 34), .int 0, .int 0, .ref (ka 35), .int 0, .ref (ka 36), .int 0, .int 0, .int 0, .int 0, .int 0])), ((ka 31), .inl (cy 0, 96, .inl (u3.2.2 0))), ((ka 32), .inl (cy 0, 96, .inl (u3.2.2 1))), ((ka 0), .inr (8, [.ref (ka 20), .int 0, .int 0, .int 0, .int 0, .int 0, .int (-1)]))] := hD
  refine lv_aload_n hx hb dX11_street_62 rfl (lv_at hlv 1 rfl) ?_
  refine va_get (D := D) (ci := 11) (v := .ref (ka 7)) (C := RX11) (T := TX11) (N := 14) hx hb hts hi11 hown hG.1 hP 2 rfl rfl 7 (by decide) lf41 (fun _ h9 => h9) rfl dX11_street_63 ?_
  refine cj_v (wr := [(ko, .inr (11, [.ref (ka 0), .ref (ka 1), .ref (ka 2), .int 0, .int 0, .ref (ka 6), .ref (ka 5), .ref (ka 7), .ref (ka 8), .ref (ka 9), .int 0, .ref (ka 11), .ref (ka 12), .ref (ka 13)])), ((ka 6), .inr (6, [.int 8, .int 3, .ref (ka 31), .ref (ka 32), .int 0, .int 0, .ref (ka 33), .int 0, .ref (ka 34), .int 0, .int 0, .ref (ka 35), .int 0, .ref (ka 36), .int 0, .int 0, .int 0, .int 0, .int 0])), ((ka 31), .inl (cy 0, 96, .inl (u3.2.2 0))), ((ka 32), .inl (cy 0, 96, .inl (u3.2.2 1))), ((ka 0), .inr (8, [.ref (ka 20), .int 0, .int 0, .int 0, .int 0, .int 0, .int (-1)]))]) (va_runVN (host := "KerbSplash") (As := []) (rest := []) ⟨hx, hb, hml, hown, hts⟩ (c_preset l hl D cy sa ka f2 H.size) ⟨va_cnB 0 hts gX11_street_X4_reset_n102 rfl rfl rfl (nM_K_102 hG.2.1) ini_RX4 (by decide +kernel) ⟨Nat.le_of_ble_eq_true rfl, Nat.le_of_ble_eq_true rfl⟩, im_X4_reset, se_X4_reset⟩ ⟨pcW.blind, (va_recv hG.1 hP (ci := 4) (q0 := 0) rfl rfl), (pcW.mk hP hD hS hA hG hT [0, 1] rfl (by decide))⟩ rfl rfl hlv.1 rfl (lv_room (Nat.le_of_ble_eq_true rfl)) dX11_street_66 ⟨Nat.le_of_ble_eq_true rfl, Nat.le_of_ble_eq_true rfl⟩) hP hD hS hA [0, 1] [2, 3, 4, 5, 6] rfl rfl (by decide) (by decide) (fun u5 H locs hw5 hP hD hS => ?_)
  have hP : va_P D vwCl [(ko, .inr (11, [.ref (ka 0), .ref (ka 1), .ref (ka 2), .int 0, .int 0, .ref (ka 6), .ref (ka 5), .ref (ka 7), .ref (ka 8), .ref (ka 9), .int 0, .ref (ka 11), .ref (ka 12), .ref (ka 13)])), ((ka 6), .inr (6, [.int 8, .int 3, .ref (ka 31), .ref (ka 32), .int 0, .int 0, .ref (ka 33), .int 0, .ref (ka 34), .int 0, .int 0, .ref (ka 35), .int 0, .ref (ka 36), .int 0, .int 0, .int 0, .int 0, .int 0])), ((ka 31), .inl (cy 0, 96, .inl (u3.2.2 0))), ((ka 32), .inl (cy 0, 96, .inl (u3.2.2 1))), ((ka 0), .inr (8, [.ref (ka 20), .int 0, .int 0, .int 0, .int 0, .int 0, .int (-1)]))] H := hP
  have hD : va_D A [(ko, .inr (11, [.ref (ka 0), .ref (ka 1), .ref (ka 2), .int 0, .int 0, .ref (ka 6), .ref (ka 5), .ref (ka 7), .ref (ka 8), .ref (ka 9), .int 0, .ref (ka 11), .ref (ka 12), .ref (ka 13)])), ((ka 6), .inr (6, [.int 8, .int 3, .ref (ka 31), .ref (ka 32), .int 0, .int 0, .ref (ka 33), .int 0, .ref (ka 34), .int 0, .int 0, .ref (ka 35), .int 0, .ref (ka 36), .int 0, .int 0, .int 0, .int 0, .int 0])), ((ka 31), .inl (cy 0, 96, .inl (u3.2.2 0))), ((ka 32), .inl (cy 0, 96, .inl (u3.2.2 1))), ((ka 0), .inr (8, [.ref (ka 20), .int 0, .int 0, .int 0, .int 0, .int 0, .int (-1)]))] := hD
  refine lv_aload_n hx hb dX11_street_69 rfl (lv_at hlv 1 rfl) ?_
  refine lv_iconst (v := 0) hx hb dX11_street_70 (by decide) ?_
  refine va_put (D := D) (ci := 11) (v := .int 0) (ty := .int) (C := RX11) (T := TX11) (N := 14) hx hb hts hi11 tyX11 tyX11_ok nmX11 hown hG.1 hP hD hS 0 rfl rfl 10 (by decide) lf105 (fun _ h9 => h9) rfl (by decide +kernel) rfl rfl (Nat.le_of_ble_eq_true rfl) dX11_street_71 (fun H locs hP hD hS => ?_)
  have hP : va_P D vwCl [(ko, .inr (11, [.ref (ka 0), .ref (ka 1), .ref (ka 2), .int 0, .int 0, .ref (ka 6), .ref (ka 5), .ref (ka 7), .ref (ka 8), .ref (ka 9), .int 0, .ref (ka 11), .ref (ka 12), .ref (ka 13)])), ((ka 6), .inr (6, [.int 8, .int 3, .ref (ka 31), .ref (ka 32), .int 0, .int 0, .ref (ka 33), .int 0, .ref (ka 34), .int 0, .int 0, .ref (ka 35), .int 0, .ref (ka 36), .int 0, .int 0, .int 0, .int 0, .int 0])), ((ka 31), .inl (cy 0, 96, .inl (u3.2.2 0))), ((ka 32), .inl (cy 0, 96, .inl (u3.2.2 1))), ((ka 0), .inr (8, [.ref (ka 20), .int 0, .int 0, .int 0, .int 0, .int 0, .int (-1)]))] H := hP
  have hD : va_D A [(ko, .inr (11, [.ref (ka 0), .ref (ka 1), .ref (ka 2), .int 0, .int 0, .ref (ka 6), .ref (ka 5), .ref (ka 7), .ref (ka 8), .ref (ka 9), .int 0, .ref (ka 11), .ref (ka 12), .ref (ka 13)])), ((ka 6), .inr (6, [.int 8, .int 3, .ref (ka 31), .ref (ka 32), .int 0, .int 0, .ref (ka 33), .int 0, .ref (ka 34), .int 0, .int 0, .ref (ka 35), .int 0, .ref (ka 36), .int 0, .int 0, .int 0, .int 0, .int 0])), ((ka 31), .inl (cy 0, 96, .inl (u3.2.2 0))), ((ka 32), .inl (cy 0, 96, .inl (u3.2.2 1))), ((ka 0), .inr (8, [.ref (ka 20), .int 0, .int 0, .int 0, .int 0, .int 0, .int (-1)]))] := hD
  refine lv_aload_n hx hb dX11_street_74 rfl (lv_at hlv 1 rfl) ?_
  refine va_get (D := D) (ci := 11) (v := .ref (ka 6)) (C := RX11) (T := TX11) (N := 14) hx hb hts hi11 hown hG.1 hP 0 rfl rfl 5 (by decide) lf31 (fun _ h9 => h9) rfl dX11_street_75 ?_
  refine cj_i (wr := [(ko, .inr (11, [.ref (ka 0), .ref (ka 1), .ref (ka 2), .int 0, .int 0, .ref (ka 6), .ref (ka 5), .ref (ka 7), .ref (ka 8), .ref (ka 9), .int 0, .ref (ka 11), .ref (ka 12), .ref (ka 13)])), ((ka 31), .inl (cy 0, 96, .inl (u3.2.2 0))), ((ka 32), .inl (cy 0, 96, .inl (u3.2.2 1))), ((ka 0), .inr (8, [.ref (ka 20), .int 0, .int 0, .int 0, .int 0, .int 0, .int (-1)]))]) (va_runVN (host := "KerbSplash") (As := []) (rest := []) ⟨hx, hb, hml, hown, hts⟩ (c_cells24 l hl D cy sa ka H.size) ⟨va_cnB 0 hts gX11_street_X6_cells_n108 rfl rfl rfl (nM_K_108 hG.2.1) ini_RX6 (by decide +kernel) ⟨Nat.le_of_ble_eq_true rfl, Nat.le_of_ble_eq_true rfl⟩, im_X6_cells, se_X6_cells⟩ ⟨pcW.blind, (va_recv hG.1 hP (ci := 6) (q0 := 1) rfl rfl), (pcW.mk hP hD hS hA hG hT [1] rfl (by decide))⟩ rfl rfl hlv.1 rfl (lv_room (Nat.le_of_ble_eq_true rfl)) dX11_street_78 ⟨Nat.le_of_ble_eq_true rfl, Nat.le_of_ble_eq_true rfl⟩) hP hD hS hA [1] [0, 2, 3, 4] rfl rfl (by decide) (by decide) (fun r6 u6 H locs hw6 hP hD hS => ?_)
  obtain rfl := hw6
  have hP : va_P D vwCl [(ko, .inr (11, [.ref (ka 0), .ref (ka 1), .ref (ka 2), .int 0, .int 0, .ref (ka 6), .ref (ka 5), .ref (ka 7), .ref (ka 8), .ref (ka 9), .int 0, .ref (ka 11), .ref (ka 12), .ref (ka 13)])), ((ka 31), .inl (cy 0, 96, .inl (u3.2.2 0))), ((ka 32), .inl (cy 0, 96, .inl (u3.2.2 1))), ((ka 0), .inr (8, [.ref (ka 20), .int 0, .int 0, .int 0, .int 0, .int 0, .int (-1)]))] H := hP
  have hD : va_D A [(ko, .inr (11, [.ref (ka 0), .ref (ka 1), .ref (ka 2), .int 0, .int 0, .ref (ka 6), .ref (ka 5), .ref (ka 7), .ref (ka 8), .ref (ka 9), .int 0, .ref (ka 11), .ref (ka 12), .ref (ka 13)])), ((ka 31), .inl (cy 0, 96, .inl (u3.2.2 0))), ((ka 32), .inl (cy 0, 96, .inl (u3.2.2 1))), ((ka 0), .inr (8, [.ref (ka 20), .int 0, .int 0, .int 0, .int 0, .int 0, .int (-1)]))] := hD
  refine W.widen (k := 1) (n := 2) (Nat.le_of_ble_eq_true rfl) (Nat.le_of_ble_eq_true rfl) ?_
  exact W.iret (v := 24) hx hb hr (fun t ht hW => ⟨⟨24, ((fun k => ([] : List Nat).getD k 0), (fun k => ([] : List Int32).getD k 0), (fun k => ([] : List (Nat → Int32)).getD k (fun _ => 0))), rfl, (by first | (exact (by rfl))), by rw [ht]; exact hP.sub [] rfl, hD.sub [] (by decide) rfl⟩, hS.F ht⟩) hS.2.2 dX11_street_81
