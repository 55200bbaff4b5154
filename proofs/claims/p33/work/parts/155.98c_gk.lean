set_option maxRecDepth 1000000 in
theorem gl8X11_init_r1_0 : GoodIn lw_tbl [(Cond.methodLink RX11 1 objectInit : Cond)] := gi_one (mb_1 _ (List.mem_of_getElem? (i := 34) rfl)) (by decide +kernel)
set_option maxRecDepth 1000000 in
theorem gl8X11_init_r1_1 : GoodIn lw_tbl [(Cond.instanceMethod objectInit : Cond)] := gi_one (mb_1 _ (List.mem_of_getElem? (i := 35) rfl)) (by decide +kernel)
set_option maxRecDepth 1000000 in
theorem gl8X11_init_r1_2 : GoodIn lw_tbl [(Cond.code objectInit ⟨#[0xb1]⟩ 1 none : Cond)] := gi_one (mb_1 _ (List.mem_of_getElem? (i := 36) rfl)) (by decide +kernel)
set_option maxRecDepth 1000000 in
theorem gl8X11_init_r1_3 : GoodIn lw_tbl [(Cond.classLink RX11 7 RX8 : Cond)] := gi_one (mb_1 _ (List.mem_of_getElem? (i := 37) rfl)) (by decide +kernel)
set_option maxRecDepth 1000000 in
theorem gl8X11_init_r1_4 : GoodIn lw_tbl [(Cond.instantiable RX8 7 : Cond)] := gi_one (mb_1 _ (List.mem_of_getElem? (i := 38) rfl)) (by decide +kernel)
set_option maxRecDepth 1000000 in
theorem gl8X11_init_r1_5 : GoodIn lw_tbl [(Cond.initialized RX8 : Cond)] := gi_one (mb_1 _ (List.mem_of_getElem? (i := 2) rfl)) (by decide +kernel)
set_option maxRecDepth 1000000 in
theorem gl8X11_init_r1_6 : GoodIn lw_tbl [(Cond.fieldLink RX11 10 "KerbSplash" "tape" "LKerbSplash$Tape;" : Cond)] := gi_one (mb_2 _ (List.mem_of_getElem? (i := 87) rfl)) (by decide +kernel)
set_option maxRecDepth 1000000 in
theorem gl8X11_init_r1_7 : GoodIn lw_tbl [(Cond.classLink RX11 16 RX5 : Cond)] := gi_one (mb_1 _ (List.mem_of_getElem? (i := 69) rfl)) (by decide +kernel)
set_option maxRecDepth 1000000 in
theorem gl8X11_init_r1_8 : GoodIn lw_tbl [(Cond.fieldLink RX11 18 "KerbSplash" "rains" "[LKerbSplash$Rain;" : Cond)] := gi_one (mb_2 _ (List.mem_of_getElem? (i := 88) rfl)) (by decide +kernel)
set_option maxRecDepth 1000000 in
theorem gl8X11_init_r1_9 : GoodIn lw_tbl [(Cond.classLink RX11 22 RX1 : Cond)] := gi_one (mb_1 _ (List.mem_of_getElem? (i := 71) rfl)) (by decide +kernel)
set_option maxRecDepth 1000000 in
theorem gl8X11_init_r1_10 : GoodIn lw_tbl [(Cond.fieldLink RX11 24 "KerbSplash" "laws" "[LKerbSplash$Law;" : Cond)] := gi_one (mb_2 _ (List.mem_of_getElem? (i := 89) rfl)) (by decide +kernel)
set_option maxRecDepth 1000000 in
theorem gl8X11_init_r1_11 : GoodIn lw_tbl [(Cond.classLink RX11 28 RX6 : Cond)] := gi_one (mb_1 _ (List.mem_of_getElem? (i := 73) rfl)) (by decide +kernel)
set_option maxRecDepth 1000000 in
theorem gl8X11_init_r1_12 : GoodIn lw_tbl [(Cond.instantiable RX6 19 : Cond)] := gi_one (mb_1 _ (List.mem_of_getElem? (i := 74) rfl)) (by decide +kernel)
set_option maxRecDepth 1000000 in
theorem gl8X11_init_r1_13 : GoodIn lw_tbl [(Cond.initialized RX6 : Cond)] := gi_one (mb_1 _ (List.mem_of_getElem? (i := 3) rfl)) (by decide +kernel)
set_option maxRecDepth 1000000 in
theorem gl8X11_init_r1_14 : GoodIn lw_tbl [(Cond.fieldLink RX11 31 "KerbSplash" "now" "LKerbSplash$Street;" : Cond)] := gi_one (mb_2 _ (List.mem_of_getElem? (i := 92) rfl)) (by decide +kernel)
set_option maxRecDepth 1000000 in
theorem gl8X11_init_r1_15 : GoodIn lw_tbl [(Cond.fieldLink RX11 35 "KerbSplash" "draft" "LKerbSplash$Street;" : Cond)] := gi_one (mb_2 _ (List.mem_of_getElem? (i := 93) rfl)) (by decide +kernel)
set_option maxRecDepth 1000000 in
theorem gl8X11_init_r1_16 : GoodIn lw_tbl [(Cond.classLink RX11 38 RX4 : Cond)] := gi_one (mb_1 _ (List.mem_of_getElem? (i := 180) rfl)) (by decide +kernel)
set_option maxRecDepth 1000000 in
theorem gl8X11_init_r1_17 : GoodIn lw_tbl [(Cond.instantiable RX4 5 : Cond)] := gi_one (mb_1 _ (List.mem_of_getElem? (i := 181) rfl)) (by decide +kernel)
set_option maxRecDepth 1000000 in
theorem gl8X11_init_r1_18 : GoodIn lw_tbl [(Cond.initialized RX4 : Cond)] := gi_one (mb_1 _ (List.mem_of_getElem? (i := 4) rfl)) (by decide +kernel)
set_option maxRecDepth 1000000 in
theorem gl8X11_init_r1_19 : GoodIn lw_tbl [(Cond.fieldLink RX11 41 "KerbSplash" "plan" "LKerbSplash$Plan;" : Cond)] := gi_one (mb_2 _ (List.mem_of_getElem? (i := 94) rfl)) (by decide +kernel)
set_option maxRecDepth 1000000 in
theorem gl8X11_init_r1_20 : GoodIn lw_tbl [(Cond.fieldLink RX11 45 "KerbSplash" "streetImages" "[LKerbSplash$Street;" : Cond)] := gi_one (mb_2 _ (List.mem_of_getElem? (i := 95) rfl)) (by decide +kernel)
set_option maxRecDepth 1000000 in
theorem gl8X11_init_r1_21 : GoodIn lw_tbl [(Cond.fieldLink RX11 49 "KerbSplash" "planImages" "[LKerbSplash$Plan;" : Cond)] := gi_one (mb_2 _ (List.mem_of_getElem? (i := 96) rfl)) (by decide +kernel)
set_option maxRecDepth 1000000 in
theorem gl8X11_init_r1_22 : GoodIn lw_tbl [(Cond.classLink RX11 53 RX9 : Cond)] := gi_one (mb_1 _ (List.mem_of_getElem? (i := 212) rfl)) (by decide +kernel)
set_option maxRecDepth 1000000 in
theorem gl8X11_init_r1_23 : GoodIn lw_tbl [(Cond.instantiable RX9 5 : Cond)] := gi_one (mb_1 _ (List.mem_of_getElem? (i := 213) rfl)) (by decide +kernel)
theorem gl8X11_init_r1 : GoodIn lw_tbl wsX11_init_r1 := gi_cons gl8X11_init_r1_0 (gi_cons gl8X11_init_r1_1 (gi_cons gl8X11_init_r1_2 (gi_cons gl8X11_init_r1_3 (gi_cons gl8X11_init_r1_4 (gi_cons gl8X11_init_r1_5 (gi_cons gl8X11_init_r1_6 (gi_cons gl8X11_init_r1_7 (gi_cons gl8X11_init_r1_8 (gi_cons gl8X11_init_r1_9 (gi_cons gl8X11_init_r1_10 (gi_cons gl8X11_init_r1_11 (gi_cons gl8X11_init_r1_12 (gi_cons gl8X11_init_r1_13 (gi_cons gl8X11_init_r1_14 (gi_cons gl8X11_init_r1_15 (gi_cons gl8X11_init_r1_16 (gi_cons gl8X11_init_r1_17 (gi_cons gl8X11_init_r1_18 (gi_cons gl8X11_init_r1_19 (gi_cons gl8X11_init_r1_20 (gi_cons gl8X11_init_r1_21 (gi_cons gl8X11_init_r1_22 (gi_cons gl8X11_init_r1_23 (gi_nil))))))))))))))))))))))))
set_option maxRecDepth 1000000 in
theorem gl8X11_init_r2_0 : GoodIn lw_tbl [(Cond.initialized RX9 : Cond)] := gi_one (mb_1 _ (List.mem_of_getElem? (i := 5) rfl)) (by decide +kernel)
set_option maxRecDepth 1000000 in
theorem gl8X11_init_r2_1 : GoodIn lw_tbl [(Cond.fieldLink RX11 56 "KerbSplash" "whatIf" "LKerbSplash$WhatIf;" : Cond)] := gi_one (mb_2 _ (List.mem_of_getElem? (i := 98) rfl)) (by decide +kernel)
set_option maxRecDepth 1000000 in
theorem gl8X11_init_r2_2 : GoodIn lw_tbl [(Cond.classLink RX11 60 RX3 : Cond)] := gi_one (mb_2 _ (List.mem_of_getElem? (i := 29) rfl)) (by decide +kernel)
set_option maxRecDepth 1000000 in
theorem gl8X11_init_r2_3 : GoodIn lw_tbl [(Cond.instantiable RX3 4 : Cond)] := gi_one (mb_2 _ (List.mem_of_getElem? (i := 30) rfl)) (by decide +kernel)
set_option maxRecDepth 1000000 in
theorem gl8X11_init_r2_4 : GoodIn lw_tbl [(Cond.initialized RX3 : Cond)] := gi_one (mb_1 _ (List.mem_of_getElem? (i := 7) rfl)) (by decide +kernel)
set_option maxRecDepth 1000000 in
theorem gl8X11_init_r2_5 : GoodIn lw_tbl [(Cond.fieldLink RX11 63 "KerbSplash" "orders" "LKerbSplash$Orders;" : Cond)] := gi_one (mb_2 _ (List.mem_of_getElem? (i := 99) rfl)) (by decide +kernel)
set_option maxRecDepth 1000000 in
theorem gl8X11_init_r2_6 : GoodIn lw_tbl [(Cond.arrayClass .int : Cond)] := gi_one (mb_1 _ (List.mem_of_getElem? (i := 179) rfl)) (by decide +kernel)
set_option maxRecDepth 1000000 in
theorem gl8X11_init_r2_7 : GoodIn lw_tbl [(Cond.fieldLink RX11 67 "KerbSplash" "refused" "[I" : Cond)] := gi_one (mb_2 _ (List.mem_of_getElem? (i := 100) rfl)) (by decide +kernel)
set_option maxRecDepth 1000000 in
theorem gl8X11_init_r2_8 : GoodIn lw_tbl [(Cond.instantiable RX5 2 : Cond)] := gi_one (mb_2 _ (List.mem_of_getElem? (i := 51) rfl)) (by decide +kernel)
set_option maxRecDepth 1000000 in
theorem gl8X11_init_r2_9 : GoodIn lw_tbl [(Cond.initialized RX5 : Cond)] := gi_one (mb_1 _ (List.mem_of_getElem? (i := 8) rfl)) (by decide +kernel)
set_option maxRecDepth 1000000 in
theorem gl8X11_init_r2_10 : GoodIn lw_tbl [(Cond.instantiable RX1 4 : Cond)] := gi_one (mb_2 _ (List.mem_of_getElem? (i := 67) rfl)) (by decide +kernel)
set_option maxRecDepth 1000000 in
theorem gl8X11_init_r2_11 : GoodIn lw_tbl [(Cond.initialized RX1 : Cond)] := gi_one (mb_1 _ (List.mem_of_getElem? (i := 9) rfl)) (by decide +kernel)
set_option maxRecDepth 1000000 in
theorem gl8X11_init_r2_12 : GoodIn lw_tbl [(Cond.instanceMethod yX8_init : Cond)] := gi_one (mb_1 _ (List.mem_of_getElem? (i := 40) rfl)) (by decide +kernel)
set_option maxRecDepth 1000000 in
theorem gl8X11_init_r2_13 : GoodIn lw_tbl [(Cond.code yX8_init cX8_init 1 none : Cond)] := gi_one (mb_1 _ (List.mem_of_getElem? (i := 41) rfl)) (by decide +kernel)
set_option maxRecDepth 1000000 in
theorem gl8X11_init_r2_14 : GoodIn lw_tbl [(Cond.methodLink RX8 3 objectInit : Cond)] := gi_one (mb_1 _ (List.mem_of_getElem? (i := 42) rfl)) (by decide +kernel)
set_option maxRecDepth 1000000 in
theorem gl8X11_init_r2_15 : GoodIn lw_tbl [(Cond.arrayClass .byte : Cond)] := gi_one (mb_1 _ (List.mem_of_getElem? (i := 68) rfl)) (by decide +kernel)
set_option maxRecDepth 1000000 in
theorem gl8X11_init_r2_16 : GoodIn lw_tbl [(Cond.fieldLink RX8 11 "KerbSplash$Tape" "bytes" "[B" : Cond)] := gi_one (mb_1 _ (List.mem_of_getElem? (i := 43) rfl)) (by decide +kernel)
set_option maxRecDepth 1000000 in
theorem gl8X11_init_r2_17 : GoodIn lw_tbl [(Cond.fieldLink RX8 15 "KerbSplash$Tape" "faultAt" "I" : Cond)] := gi_one (mb_1 _ (List.mem_of_getElem? (i := 51) rfl)) (by decide +kernel)
set_option maxRecDepth 1000000 in
theorem gl8X11_init_r2_18 : GoodIn lw_tbl [(Cond.instanceMethod yX6_init : Cond)] := gi_one (mb_1 _ (List.mem_of_getElem? (i := 76) rfl)) (by decide +kernel)
set_option maxRecDepth 1000000 in
theorem gl8X11_init_r2_19 : GoodIn lw_tbl [(Cond.code yX6_init cX6_init 1 none : Cond)] := gi_one (mb_1 _ (List.mem_of_getElem? (i := 77) rfl)) (by decide +kernel)
set_option maxRecDepth 1000000 in
theorem gl8X11_init_r2_20 : GoodIn lw_tbl [(Cond.methodLink RX6 1 objectInit : Cond)] := gi_one (mb_1 _ (List.mem_of_getElem? (i := 78) rfl)) (by decide +kernel)
set_option maxRecDepth 1000000 in
theorem gl8X11_init_r2_21 : GoodIn lw_tbl [(Cond.fieldLink RX6 9 "KerbSplash$Street" "height" "[I" : Cond)] := gi_one (mb_1 _ (List.mem_of_getElem? (i := 89) rfl)) (by decide +kernel)
set_option maxRecDepth 1000000 in
theorem gl8X11_init_r2_22 : GoodIn lw_tbl [(Cond.fieldLink RX6 13 "KerbSplash$Street" "water" "[I" : Cond)] := gi_one (mb_1 _ (List.mem_of_getElem? (i := 92) rfl)) (by decide +kernel)
set_option maxRecDepth 1000000 in
theorem gl8X11_init_r2_23 : GoodIn lw_tbl [(Cond.fieldLink RX6 16 "KerbSplash$Street" "drain" "[I" : Cond)] := gi_one (mb_1 _ (List.mem_of_getElem? (i := 105) rfl)) (by decide +kernel)
theorem gl8X11_init_r2 : GoodIn lw_tbl wsX11_init_r2 := gi_cons gl8X11_init_r2_0 (gi_cons gl8X11_init_r2_1 (gi_cons gl8X11_init_r2_2 (gi_cons gl8X11_init_r2_3 (gi_cons gl8X11_init_r2_4 (gi_cons gl8X11_init_r2_5 (gi_cons gl8X11_init_r2_6 (gi_cons gl8X11_init_r2_7 (gi_cons gl8X11_init_r2_8 (gi_cons gl8X11_init_r2_9 (gi_cons gl8X11_init_r2_10 (gi_cons gl8X11_init_r2_11 (gi_cons gl8X11_init_r2_12 (gi_cons gl8X11_init_r2_13 (gi_cons gl8X11_init_r2_14 (gi_cons gl8X11_init_r2_15 (gi_cons gl8X11_init_r2_16 (gi_cons gl8X11_init_r2_17 (gi_cons gl8X11_init_r2_18 (gi_cons gl8X11_init_r2_19 (gi_cons gl8X11_init_r2_20 (gi_cons gl8X11_init_r2_21 (gi_cons gl8X11_init_r2_22 (gi_cons gl8X11_init_r2_23 (gi_nil))))))))))))))))))))))))
set_option maxRecDepth 1000000 in
theorem gl8X11_init_r3_0 : GoodIn lw_tbl [(Cond.fieldLink RX6 19 "KerbSplash$Street" "person" "[I" : Cond)] := gi_one (mb_1 _ (List.mem_of_getElem? (i := 114) rfl)) (by decide +kernel)
set_option maxRecDepth 1000000 in
theorem gl8X11_init_r3_1 : GoodIn lw_tbl [(Cond.fieldLink RX6 22 "KerbSplash$Street" "shelter" "[I" : Cond)] := gi_one (mb_1 _ (List.mem_of_getElem? (i := 123) rfl)) (by decide +kernel)
set_option maxRecDepth 1000000 in
theorem gl8X11_init_r3_2 : GoodIn lw_tbl [(Cond.fieldLink RX6 25 "KerbSplash$Street" "work" "[I" : Cond)] := gi_one (mb_1 _ (List.mem_of_getElem? (i := 128) rfl)) (by decide +kernel)
set_option maxRecDepth 1000000 in
theorem gl8X11_init_r3_3 : GoodIn lw_tbl [(Cond.instanceMethod yX4_init : Cond)] := gi_one (mb_1 _ (List.mem_of_getElem? (i := 183) rfl)) (by decide +kernel)
set_option maxRecDepth 1000000 in
theorem gl8X11_init_r3_4 : GoodIn lw_tbl [(Cond.code yX4_init cX4_init 1 none : Cond)] := gi_one (mb_1 _ (List.mem_of_getElem? (i := 184) rfl)) (by decide +kernel)
set_option maxRecDepth 1000000 in
theorem gl8X11_init_r3_5 : GoodIn lw_tbl [(Cond.methodLink RX4 3 objectInit : Cond)] := gi_one (mb_1 _ (List.mem_of_getElem? (i := 185) rfl)) (by decide +kernel)
set_option maxRecDepth 1000000 in
theorem gl8X11_init_r3_6 : GoodIn lw_tbl [(Cond.fieldLink RX4 11 "KerbSplash$Plan" "traffic" "[I" : Cond)] := gi_one (mb_1 _ (List.mem_of_getElem? (i := 189) rfl)) (by decide +kernel)
set_option maxRecDepth 1000000 in
theorem gl8X11_init_r3_7 : GoodIn lw_tbl [(Cond.fieldLink RX4 15 "KerbSplash$Plan" "dip" "[I" : Cond)] := gi_one (mb_1 _ (List.mem_of_getElem? (i := 194) rfl)) (by decide +kernel)
set_option maxRecDepth 1000000 in
theorem gl8X11_init_r3_8 : GoodIn lw_tbl [(Cond.fieldLink RX4 18 "KerbSplash$Plan" "shares" "[I" : Cond)] := gi_one (mb_1 _ (List.mem_of_getElem? (i := 196) rfl)) (by decide +kernel)
set_option maxRecDepth 1000000 in
theorem gl8X11_init_r3_9 : GoodIn lw_tbl [(Cond.instanceMethod yX9_init : Cond)] := gi_one (mb_1 _ (List.mem_of_getElem? (i := 215) rfl)) (by decide +kernel)
set_option maxRecDepth 1000000 in
theorem gl8X11_init_r3_10 : GoodIn lw_tbl [(Cond.code yX9_init cX9_init 1 none : Cond)] := gi_one (mb_1 _ (List.mem_of_getElem? (i := 216) rfl)) (by decide +kernel)
set_option maxRecDepth 1000000 in
theorem gl8X11_init_r3_11 : GoodIn lw_tbl [(Cond.methodLink RX9 5 objectInit : Cond)] := gi_one (mb_1 _ (List.mem_of_getElem? (i := 217) rfl)) (by decide +kernel)
set_option maxRecDepth 1000000 in
theorem gl8X11_init_r3_12 : GoodIn lw_tbl [(Cond.classLink RX9 1 RX6 : Cond)] := gi_one (mb_1 _ (List.mem_of_getElem? (i := 218) rfl)) (by decide +kernel)
set_option maxRecDepth 1000000 in
theorem gl8X11_init_r3_13 : GoodIn lw_tbl [(Cond.fieldLink RX9 12 "KerbSplash$WhatIf" "trial" "LKerbSplash$Street;" : Cond)] := gi_one (mb_2 _ (List.mem_of_getElem? (i := 12) rfl)) (by decide +kernel)
set_option maxRecDepth 1000000 in
theorem gl8X11_init_r3_14 : GoodIn lw_tbl [(Cond.classLink RX9 18 RX0 : Cond)] := gi_one (mb_1 _ (List.mem_of_getElem? (i := 220) rfl)) (by decide +kernel)
set_option maxRecDepth 1000000 in
theorem gl8X11_init_r3_15 : GoodIn lw_tbl [(Cond.instantiable RX0 7 : Cond)] := gi_one (mb_1 _ (List.mem_of_getElem? (i := 221) rfl)) (by decide +kernel)
set_option maxRecDepth 1000000 in
theorem gl8X11_init_r3_16 : GoodIn lw_tbl [(Cond.initialized RX0 : Cond)] := gi_one (mb_1 _ (List.mem_of_getElem? (i := 6) rfl)) (by decide +kernel)
set_option maxRecDepth 1000000 in
theorem gl8X11_init_r3_17 : GoodIn lw_tbl [(Cond.fieldLink RX9 21 "KerbSplash$WhatIf" "car" "LKerbSplash$Car;" : Cond)] := gi_one (mb_2 _ (List.mem_of_getElem? (i := 13) rfl)) (by decide +kernel)
set_option maxRecDepth 1000000 in
theorem gl8X11_init_r3_18 : GoodIn lw_tbl [(Cond.fieldLink RX9 25 "KerbSplash$WhatIf" "seen" "[I" : Cond)] := gi_one (mb_2 _ (List.mem_of_getElem? (i := 15) rfl)) (by decide +kernel)
set_option maxRecDepth 1000000 in
theorem gl8X11_init_r3_19 : GoodIn lw_tbl [(Cond.instanceMethod yX0_init : Cond)] := gi_one (mb_1 _ (List.mem_of_getElem? (i := 223) rfl)) (by decide +kernel)
set_option maxRecDepth 1000000 in
theorem gl8X11_init_r3_20 : GoodIn lw_tbl [(Cond.code yX0_init cX0_init 1 none : Cond)] := gi_one (mb_1 _ (List.mem_of_getElem? (i := 224) rfl)) (by decide +kernel)
set_option maxRecDepth 1000000 in
theorem gl8X11_init_r3_21 : GoodIn lw_tbl [(Cond.methodLink RX0 1 objectInit : Cond)] := gi_one (mb_1 _ (List.mem_of_getElem? (i := 225) rfl)) (by decide +kernel)
set_option maxRecDepth 1000000 in
theorem gl8X11_init_r3_22 : GoodIn lw_tbl [(Cond.fieldLink RX0 9 "KerbSplash$Car" "names" "[I" : Cond)] := gi_one (mb_1 _ (List.mem_of_getElem? (i := 226) rfl)) (by decide +kernel)
set_option maxRecDepth 1000000 in
theorem gl8X11_init_r3_23 : GoodIn lw_tbl [(Cond.instanceMethod yX3_init : Cond)] := gi_one (mb_2 _ (List.mem_of_getElem? (i := 32) rfl)) (by decide +kernel)
theorem gl8X11_init_r3 : GoodIn lw_tbl wsX11_init_r3 := gi_cons gl8X11_init_r3_0 (gi_cons gl8X11_init_r3_1 (gi_cons gl8X11_init_r3_2 (gi_cons gl8X11_init_r3_3 (gi_cons gl8X11_init_r3_4 (gi_cons gl8X11_init_r3_5 (gi_cons gl8X11_init_r3_6 (gi_cons gl8X11_init_r3_7 (gi_cons gl8X11_init_r3_8 (gi_cons gl8X11_init_r3_9 (gi_cons gl8X11_init_r3_10 (gi_cons gl8X11_init_r3_11 (gi_cons gl8X11_init_r3_12 (gi_cons gl8X11_init_r3_13 (gi_cons gl8X11_init_r3_14 (gi_cons gl8X11_init_r3_15 (gi_cons gl8X11_init_r3_16 (gi_cons gl8X11_init_r3_17 (gi_cons gl8X11_init_r3_18 (gi_cons gl8X11_init_r3_19 (gi_cons gl8X11_init_r3_20 (gi_cons gl8X11_init_r3_21 (gi_cons gl8X11_init_r3_22 (gi_cons gl8X11_init_r3_23 (gi_nil))))))))))))))))))))))))
set_option maxRecDepth 1000000 in
theorem gl8X11_init_r4_0 : GoodIn lw_tbl [(Cond.code yX3_init cX3_init 1 none : Cond)] := gi_one (mb_2 _ (List.mem_of_getElem? (i := 33) rfl)) (by decide +kernel)
set_option maxRecDepth 1000000 in
theorem gl8X11_init_r4_1 : GoodIn lw_tbl [(Cond.methodLink RX3 3 objectInit : Cond)] := gi_one (mb_2 _ (List.mem_of_getElem? (i := 34) rfl)) (by decide +kernel)
set_option maxRecDepth 1000000 in
theorem gl8X11_init_r4_2 : GoodIn lw_tbl [(Cond.fieldLink RX3 11 "KerbSplash$Orders" "best" "[I" : Cond)] := gi_one (mb_2 _ (List.mem_of_getElem? (i := 41) rfl)) (by decide +kernel)
set_option maxRecDepth 1000000 in
theorem gl8X11_init_r4_3 : GoodIn lw_tbl [(Cond.instanceMethod yX5_init : Cond)] := gi_one (mb_2 _ (List.mem_of_getElem? (i := 53) rfl)) (by decide +kernel)
set_option maxRecDepth 1000000 in
theorem gl8X11_init_r4_4 : GoodIn lw_tbl [(Cond.code yX5_init cX5_init 1 none : Cond)] := gi_one (mb_2 _ (List.mem_of_getElem? (i := 54) rfl)) (by decide +kernel)
set_option maxRecDepth 1000000 in
theorem gl8X11_init_r4_5 : GoodIn lw_tbl [(Cond.methodLink RX5 1 objectInit : Cond)] := gi_one (mb_2 _ (List.mem_of_getElem? (i := 55) rfl)) (by decide +kernel)
set_option maxRecDepth 1000000 in
theorem gl8X11_init_r4_6 : GoodIn lw_tbl [(Cond.fieldLink RX5 9 "KerbSplash$Rain" "falls" "[I" : Cond)] := gi_one (mb_2 _ (List.mem_of_getElem? (i := 56) rfl)) (by decide +kernel)
set_option maxRecDepth 1000000 in
theorem gl8X11_init_r4_7 : GoodIn lw_tbl [(Cond.instanceMethod yX1_init : Cond)] := gi_one (mb_2 _ (List.mem_of_getElem? (i := 69) rfl)) (by decide +kernel)
set_option maxRecDepth 1000000 in
theorem gl8X11_init_r4_8 : GoodIn lw_tbl [(Cond.code yX1_init cX1_init 1 none : Cond)] := gi_one (mb_2 _ (List.mem_of_getElem? (i := 70) rfl)) (by decide +kernel)
set_option maxRecDepth 1000000 in
theorem gl8X11_init_r4_9 : GoodIn lw_tbl [(Cond.methodLink RX1 3 objectInit : Cond)] := gi_one (mb_2 _ (List.mem_of_getElem? (i := 71) rfl)) (by decide +kernel)
set_option maxRecDepth 1000000 in
theorem gl8X11_init_r4_10 : GoodIn lw_tbl [(Cond.fieldLink RX1 11 "KerbSplash$Law" "steps" "[I" : Cond)] := gi_one (mb_2 _ (List.mem_of_getElem? (i := 72) rfl)) (by decide +kernel)
set_option maxRecDepth 1000000 in
theorem gl8X11_init_r4_11 : GoodIn lw_tbl [(Cond.fieldLink RX1 17 "KerbSplash$Law" "starts" "[I" : Cond)] := gi_one (mb_2 _ (List.mem_of_getElem? (i := 75) rfl)) (by decide +kernel)
set_option maxRecDepth 1000000 in
theorem gl8X11_init_r4_12 : GoodIn lw_tbl [(Cond.fieldLink RX1 20 "KerbSplash$Law" "values" "[I" : Cond)] := gi_one (mb_2 _ (List.mem_of_getElem? (i := 77) rfl)) (by decide +kernel)
theorem gl8X11_init_r4 : GoodIn lw_tbl wsX11_init_r4 := gi_cons gl8X11_init_r4_0 (gi_cons gl8X11_init_r4_1 (gi_cons gl8X11_init_r4_2 (gi_cons gl8X11_init_r4_3 (gi_cons gl8X11_init_r4_4 (gi_cons gl8X11_init_r4_5 (gi_cons gl8X11_init_r4_6 (gi_cons gl8X11_init_r4_7 (gi_cons gl8X11_init_r4_8 (gi_cons gl8X11_init_r4_9 (gi_cons gl8X11_init_r4_10 (gi_cons gl8X11_init_r4_11 (gi_cons gl8X11_init_r4_12 (gi_nil)))))))))))))
set_option maxRecDepth 1000000 in
theorem gl8X11_init_h : GoodIn lw_tbl [(.code yX11_init cX11_init 2 none : Cond)] := gi_one (mb_1 _ (List.mem_of_getElem? (i := 33) rfl)) (by decide +kernel)
set_option maxRecDepth 1000000 in
theorem gl8X12_init_r1_0 : GoodIn lw_tbl [(Cond.methodLink RX12 11 objectInit : Cond)] := gi_one (mb_6 _ (List.mem_of_getElem? (i := 180) rfl)) (by decide +kernel)
set_option maxRecDepth 1000000 in
theorem gl8X12_init_r1_1 : GoodIn lw_tbl [(Cond.instanceMethod objectInit : Cond)] := gi_one (mb_1 _ (List.mem_of_getElem? (i := 35) rfl)) (by decide +kernel)
set_option maxRecDepth 1000000 in
theorem gl8X12_init_r1_2 : GoodIn lw_tbl [(Cond.code objectInit ⟨#[0xb1]⟩ 1 none : Cond)] := gi_one (mb_1 _ (List.mem_of_getElem? (i := 36) rfl)) (by decide +kernel)
set_option maxRecDepth 1000000 in
theorem gl8X12_init_r1_3 : GoodIn lw_tbl [(Cond.arrayClass .int : Cond)] := gi_one (mb_1 _ (List.mem_of_getElem? (i := 179) rfl)) (by decide +kernel)
set_option maxRecDepth 1000000 in
theorem gl8X12_init_r1_4 : GoodIn lw_tbl [(Cond.fieldLink RX12 7 "KerbSplashModel" "refused" "[I" : Cond)] := gi_one (mb_6 _ (List.mem_of_getElem? (i := 182) rfl)) (by decide +kernel)
set_option maxRecDepth 1000000 in
theorem gl8X12_init_r1_5 : GoodIn lw_tbl [(Cond.fieldLink RX12 17 "KerbSplashModel" "faultAt" "I" : Cond)] := gi_one (mb_6 _ (List.mem_of_getElem? (i := 189) rfl)) (by decide +kernel)
set_option maxRecDepth 1000000 in
theorem gl8X12_init_r1_6 : GoodIn lw_tbl [(Cond.fieldLink RX12 20 "KerbSplashModel" "tape" "[I" : Cond)] := gi_one (mb_6 _ (List.mem_of_getElem? (i := 190) rfl)) (by decide +kernel)
set_option maxRecDepth 1000000 in
theorem gl8X12_init_r1_7 : GoodIn lw_tbl [(Cond.fieldLink RX12 23 "KerbSplashModel" "b" "[I" : Cond)] := gi_one (mb_6 _ (List.mem_of_getElem? (i := 191) rfl)) (by decide +kernel)
set_option maxRecDepth 1000000 in
theorem gl8X12_init_r1_8 : GoodIn lw_tbl [(Cond.fieldLink RX12 26 "KerbSplashModel" "newStreet" "[I" : Cond)] := gi_one (mb_6 _ (List.mem_of_getElem? (i := 192) rfl)) (by decide +kernel)
set_option maxRecDepth 1000000 in
theorem gl8X12_init_r1_9 : GoodIn lw_tbl [(Cond.fieldLink RX12 29 "KerbSplashModel" "s" "[I" : Cond)] := gi_one (mb_6 _ (List.mem_of_getElem? (i := 193) rfl)) (by decide +kernel)
set_option maxRecDepth 1000000 in
theorem gl8X12_init_r1_10 : GoodIn lw_tbl [(Cond.fieldLink RX12 32 "KerbSplashModel" "newState" "[I" : Cond)] := gi_one (mb_6 _ (List.mem_of_getElem? (i := 194) rfl)) (by decide +kernel)
set_option maxRecDepth 1000000 in
theorem gl8X12_init_r1_11 : GoodIn lw_tbl [(Cond.fieldLink RX12 35 "KerbSplashModel" "kept" "[I" : Cond)] := gi_one (mb_6 _ (List.mem_of_getElem? (i := 195) rfl)) (by decide +kernel)
set_option maxRecDepth 1000000 in
theorem gl8X12_init_r1_12 : GoodIn lw_tbl [(Cond.fieldLink RX12 38 "KerbSplashModel" "image" "[I" : Cond)] := gi_one (mb_6 _ (List.mem_of_getElem? (i := 196) rfl)) (by decide +kernel)
set_option maxRecDepth 1000000 in
theorem gl8X12_init_r1_13 : GoodIn lw_tbl [(Cond.fieldLink RX12 41 "KerbSplashModel" "falls" "[I" : Cond)] := gi_one (mb_6 _ (List.mem_of_getElem? (i := 200) rfl)) (by decide +kernel)
set_option maxRecDepth 1000000 in
theorem gl8X12_init_r1_14 : GoodIn lw_tbl [(Cond.fieldLink RX12 44 "KerbSplashModel" "rainMany" "[I" : Cond)] := gi_one (mb_6 _ (List.mem_of_getElem? (i := 201) rfl)) (by decide +kernel)
set_option maxRecDepth 1000000 in
theorem gl8X12_init_r1_15 : GoodIn lw_tbl [(Cond.fieldLink RX12 47 "KerbSplashModel" "rainTimes" "[I" : Cond)] := gi_one (mb_6 _ (List.mem_of_getElem? (i := 202) rfl)) (by decide +kernel)
set_option maxRecDepth 1000000 in
theorem gl8X12_init_r1_16 : GoodIn lw_tbl [(Cond.fieldLink RX12 50 "KerbSplashModel" "step" "[I" : Cond)] := gi_one (mb_6 _ (List.mem_of_getElem? (i := 204) rfl)) (by decide +kernel)
set_option maxRecDepth 1000000 in
theorem gl8X12_init_r1_17 : GoodIn lw_tbl [(Cond.fieldLink RX12 53 "KerbSplashModel" "stepValue" "[I" : Cond)] := gi_one (mb_6 _ (List.mem_of_getElem? (i := 205) rfl)) (by decide +kernel)
set_option maxRecDepth 1000000 in
theorem gl8X12_init_r1_18 : GoodIn lw_tbl [(Cond.fieldLink RX12 56 "KerbSplashModel" "lawFrom" "[I" : Cond)] := gi_one (mb_6 _ (List.mem_of_getElem? (i := 206) rfl)) (by decide +kernel)
set_option maxRecDepth 1000000 in
theorem gl8X12_init_r1_19 : GoodIn lw_tbl [(Cond.fieldLink RX12 59 "KerbSplashModel" "lawTo" "[I" : Cond)] := gi_one (mb_6 _ (List.mem_of_getElem? (i := 207) rfl)) (by decide +kernel)
set_option maxRecDepth 1000000 in
theorem gl8X12_init_r1_20 : GoodIn lw_tbl [(Cond.fieldLink RX12 62 "KerbSplashModel" "stack" "[I" : Cond)] := gi_one (mb_6 _ (List.mem_of_getElem? (i := 208) rfl)) (by decide +kernel)
set_option maxRecDepth 1000000 in
theorem gl8X12_init_r1_21 : GoodIn lw_tbl [(Cond.fieldLink RX12 65 "KerbSplashModel" "names" "[I" : Cond)] := gi_one (mb_6 _ (List.mem_of_getElem? (i := 209) rfl)) (by decide +kernel)
set_option maxRecDepth 1000000 in
theorem gl8X12_init_r1_22 : GoodIn lw_tbl [(Cond.fieldLink RX12 68 "KerbSplashModel" "cases" "[I" : Cond)] := gi_one (mb_6 _ (List.mem_of_getElem? (i := 214) rfl)) (by decide +kernel)
set_option maxRecDepth 1000000 in
theorem gl8X12_init_r1_23 : GoodIn lw_tbl [(Cond.fieldLink RX12 71 "KerbSplashModel" "shut" "I" : Cond)] := gi_one (mb_6 _ (List.mem_of_getElem? (i := 215) rfl)) (by decide +kernel)
theorem gl8X12_init_r1 : GoodIn lw_tbl wsX12_init_r1 := gi_cons gl8X12_init_r1_0 (gi_cons gl8X12_init_r1_1 (gi_cons gl8X12_init_r1_2 (gi_cons gl8X12_init_r1_3 (gi_cons gl8X12_init_r1_4 (gi_cons gl8X12_init_r1_5 (gi_cons gl8X12_init_r1_6 (gi_cons gl8X12_init_r1_7 (gi_cons gl8X12_init_r1_8 (gi_cons gl8X12_init_r1_9 (gi_cons gl8X12_init_r1_10 (gi_cons gl8X12_init_r1_11 (gi_cons gl8X12_init_r1_12 (gi_cons gl8X12_init_r1_13 (gi_cons gl8X12_init_r1_14 (gi_cons gl8X12_init_r1_15 (gi_cons gl8X12_init_r1_16 (gi_cons gl8X12_init_r1_17 (gi_cons gl8X12_init_r1_18 (gi_cons gl8X12_init_r1_19 (gi_cons gl8X12_init_r1_20 (gi_cons gl8X12_init_r1_21 (gi_cons gl8X12_init_r1_22 (gi_cons gl8X12_init_r1_23 (gi_nil))))))))))))))))))))))))
set_option maxRecDepth 1000000 in
theorem gl8X12_init_r2_0 : GoodIn lw_tbl [(Cond.fieldLink RX12 74 "KerbSplashModel" "rest" "[I" : Cond)] := gi_one (mb_6 _ (List.mem_of_getElem? (i := 216) rfl)) (by decide +kernel)
theorem gl8X12_init_r2 : GoodIn lw_tbl wsX12_init_r2 := gi_cons gl8X12_init_r2_0 (gi_nil)
set_option maxRecDepth 1000000 in
theorem gl8X12_init_h : GoodIn lw_tbl [(.code yX12_init cX12_init 2 none : Cond)] := gi_one (mb_6 _ (List.mem_of_getElem? (i := 179) rfl)) (by decide +kernel)
theorem gd8_0 : GoodIn lw_tbl (wsX11_init) := gi_cons gl8X11_init_h (goodIn_app (goodIn_app (goodIn_app (goodIn_app (goodIn_app (goodIn_app (goodIn_app (goodIn_app (goodIn_app (goodIn_app (gl8X11_init_r1) (goodIn_app (gl8X11_init_r2) (goodIn_app (gl8X11_init_r3) (gl8X11_init_r4)))) (goodIn_sub inX8 (by decide +kernel))) (goodIn_sub inX11 (by decide +kernel))) (goodIn_sub inX6 (by decide +kernel))) (goodIn_sub inX4 (by decide +kernel))) (goodIn_sub inX9 (by decide +kernel))) (goodIn_sub inX3 (by decide +kernel))) (goodIn_sub inX5 (by decide +kernel))) (goodIn_sub inX1 (by decide +kernel))) (goodIn_sub inX0 (by decide +kernel)))
theorem gd8_1 : GoodIn lw_tbl (wsX12_init) := gi_cons gl8X12_init_h (goodIn_app (goodIn_app (gl8X12_init_r1) (gl8X12_init_r2)) (goodIn_sub inX12 (by decide +kernel)))
theorem gl_X11_init : GoodIn lw_tbl (wsX11_init) := gd8_0
theorem gl_X12_init : GoodIn lw_tbl (wsX12_init) := gd8_1
set_option maxRecDepth 1000000 in
theorem lws_0 : (.classLink RL 8 RX11 : Cond) ∈ lw_tbl := mb_1 _ (List.mem_of_getElem? (i := 29) rfl)
set_option maxRecDepth 1000000 in
theorem lws_1 : (.instantiable RX11 14 : Cond) ∈ lw_tbl := mb_1 _ (List.mem_of_getElem? (i := 30) rfl)
set_option maxRecDepth 1000000 in
theorem lws_2 : (.initialized RX11 : Cond) ∈ lw_tbl := mb_1 _ (List.mem_of_getElem? (i := 1) rfl)
set_option maxRecDepth 1000000 in
theorem lws_3 : (.methodLink RL 117 yX11_init : Cond) ∈ lw_tbl := mb_1 _ (List.mem_of_getElem? (i := 31) rfl)
set_option maxRecDepth 1000000 in
theorem lws_4 : (.instanceMethod yX11_init : Cond) ∈ lw_tbl := mb_1 _ (List.mem_of_getElem? (i := 32) rfl)
set_option maxRecDepth 1000000 in
theorem lws_5 : (.classLink RL 118 RX12 : Cond) ∈ lw_tbl := mb_6 _ (List.mem_of_getElem? (i := 175) rfl)
set_option maxRecDepth 1000000 in
theorem lws_6 : (.instantiable RX12 38 : Cond) ∈ lw_tbl := mb_6 _ (List.mem_of_getElem? (i := 176) rfl)
set_option maxRecDepth 1000000 in
theorem lws_7 : (.initialized RX12 : Cond) ∈ lw_tbl := mb_1 _ (List.mem_of_getElem? (i := 10) rfl)
set_option maxRecDepth 1000000 in
theorem lws_8 : (.methodLink RL 120 yX12_init : Cond) ∈ lw_tbl := mb_6 _ (List.mem_of_getElem? (i := 177) rfl)
set_option maxRecDepth 1000000 in
theorem lws_9 : (.instanceMethod yX12_init : Cond) ∈ lw_tbl := mb_6 _ (List.mem_of_getElem? (i := 178) rfl)
set_option maxRecDepth 1000000 in
theorem lws_10 : (.arrayClass .long : Cond) ∈ lw_tbl := mb_9 _ (List.mem_of_getElem? (i := 30) rfl)
