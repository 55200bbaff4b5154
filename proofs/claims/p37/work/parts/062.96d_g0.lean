
theorem gi_nil : GoodIn lw_tbl [] := fun _ h => absurd h List.not_mem_nil
theorem gi_cons {w : Cond} {ws : List Cond} (h : GoodIn lw_tbl [w]) (k : GoodIn lw_tbl ws) : GoodIn lw_tbl (w :: ws) := fun v hv => (List.mem_cons.mp hv).elim (fun e => h v (List.mem_cons.mpr (Or.inl e))) (k v)
theorem gi_one {w : Cond} (h : w ∈ lw_tbl) (g : goodWord w = true) : GoodIn lw_tbl [w] := goodIn_sub (fun v hv => by rw [List.mem_singleton.mp hv]; exact h) (by simp [g])
theorem gw_72 : GoodIn lw_tbl [(.code Lib.Math.min.name Lib.Math.min.code 2 (some .int) : Cond)] := goodIn_of _ (by decide +kernel)
theorem gw_74 : GoodIn lw_tbl [(.static Lib.Math.min.name : Cond)] := goodIn_of _ (by decide +kernel)
theorem gw_75 : GoodIn lw_tbl [(.methodLink RX8 60 Lib.Math.min.name : Cond)] := goodIn_of _ (by decide +kernel)
theorem gw_685 : GoodIn lw_tbl [(.methodLink RX6 110 Lib.Math.min.name : Cond)] := goodIn_of _ (by decide +kernel)
theorem gw_1050 : GoodIn lw_tbl [(.constant RX9 116 (iI 2147483647) : Cond)] := goodIn_of _ (by decide +kernel)
theorem gw_1172 : GoodIn lw_tbl [(.constant RX3 29 (iI 1000000) : Cond)] := goodIn_of _ (by decide +kernel)
theorem gw_1178 : GoodIn lw_tbl [(.constant RX3 47 (iI 2147483647) : Cond)] := goodIn_of _ (by decide +kernel)
theorem gw_1180 : GoodIn lw_tbl [(.code Lib.Math.max.name Lib.Math.max.code 2 (some .int) : Cond)] := goodIn_of _ (by decide +kernel)
theorem gw_1181 : GoodIn lw_tbl [(.static Lib.Math.max.name : Cond)] := goodIn_of _ (by decide +kernel)
theorem gw_1182 : GoodIn lw_tbl [(.methodLink RX3 39 Lib.Math.max.name : Cond)] := goodIn_of _ (by decide +kernel)
theorem gw_1202 : GoodIn lw_tbl [(.constant RX12 399 (iI 1000000) : Cond)] := goodIn_of _ (by decide +kernel)
theorem gw_1219 : GoodIn lw_tbl [(.code Lib.Math.abs.name Lib.Math.abs.code 1 (some .int) : Cond)] := goodIn_of _ (by decide +kernel)
theorem gw_1220 : GoodIn lw_tbl [(.static Lib.Math.abs.name : Cond)] := goodIn_of _ (by decide +kernel)
theorem gw_1221 : GoodIn lw_tbl [(.methodLink RX3 70 Lib.Math.abs.name : Cond)] := goodIn_of _ (by decide +kernel)
theorem gw_1248 : GoodIn lw_tbl [(.methodLink RX6 142 Lib.Math.max.name : Cond)] := goodIn_of _ (by decide +kernel)
set_option maxRecDepth 1000000 in
theorem gw_11 : GoodIn lw_tbl [(.selects RX8 yX8_hasRoom yX8_hasRoom : Cond)] := gi_one (mb_0 _ (List.mem_of_getElem? (i := 0) rfl)) (by decide +kernel)
set_option maxRecDepth 1000000 in
theorem gw_9 : GoodIn lw_tbl [(.selects RX8 yX8_add yX8_add : Cond)] := gi_one (mb_0 _ (List.mem_of_getElem? (i := 1) rfl)) (by decide +kernel)
set_option maxRecDepth 1000000 in
theorem gw_958 : GoodIn lw_tbl [(.selects RX6 yX6_become yX6_become : Cond)] := gi_one (mb_0 _ (List.mem_of_getElem? (i := 2) rfl)) (by decide +kernel)
set_option maxRecDepth 1000000 in
theorem gw_1268 : GoodIn lw_tbl [(.selects RX4 yX4_become yX4_become : Cond)] := gi_one (mb_0 _ (List.mem_of_getElem? (i := 3) rfl)) (by decide +kernel)
set_option maxRecDepth 1000000 in
theorem gw_215 : GoodIn lw_tbl [(.selects RX11 yX11_beginText yX11_beginText : Cond)] := gi_one (mb_0 _ (List.mem_of_getElem? (i := 4) rfl)) (by decide +kernel)
set_option maxRecDepth 1000000 in
theorem gw_219 : GoodIn lw_tbl [(.selects RX11 yX11_needArgument yX11_needArgument : Cond)] := gi_one (mb_0 _ (List.mem_of_getElem? (i := 5) rfl)) (by decide +kernel)
set_option maxRecDepth 1000000 in
theorem gw_228 : GoodIn lw_tbl [(.selects RX8 yX8_begin yX8_begin : Cond)] := gi_one (mb_0 _ (List.mem_of_getElem? (i := 7) rfl)) (by decide +kernel)
set_option maxRecDepth 1000000 in
theorem gw_239 : GoodIn lw_tbl [(.selects RX7 yX7_read yX7_read : Cond)] := gi_one (mb_0 _ (List.mem_of_getElem? (i := 8) rfl)) (by decide +kernel)
set_option maxRecDepth 1000000 in
theorem gw_209 : GoodIn lw_tbl [(.selects RX6 yX6_reset yX6_reset : Cond)] := gi_one (mb_0 _ (List.mem_of_getElem? (i := 9) rfl)) (by decide +kernel)
set_option maxRecDepth 1000000 in
theorem gw_207 : GoodIn lw_tbl [(.selects RX8 yX8_hasMore yX8_hasMore : Cond)] := gi_one (mb_0 _ (List.mem_of_getElem? (i := 10) rfl)) (by decide +kernel)
set_option maxRecDepth 1000000 in
theorem gw_52 : GoodIn lw_tbl [(.selects RX8 yX8_sign yX8_sign : Cond)] := gi_one (mb_0 _ (List.mem_of_getElem? (i := 11) rfl)) (by decide +kernel)
set_option maxRecDepth 1000000 in
theorem gw_43 : GoodIn lw_tbl [(.selects RX7 yX7_readClause yX7_readClause : Cond)] := gi_one (mb_0 _ (List.mem_of_getElem? (i := 12) rfl)) (by decide +kernel)
set_option maxRecDepth 1000000 in
theorem gw_130 : GoodIn lw_tbl [(.selects RX8 yX8_word yX8_word : Cond)] := gi_one (mb_0 _ (List.mem_of_getElem? (i := 13) rfl)) (by decide +kernel)
set_option maxRecDepth 1000000 in
theorem gw_192 : GoodIn lw_tbl [(.selects RX10 yX10_beginsClause yX10_beginsClause : Cond)] := gi_one (mb_0 _ (List.mem_of_getElem? (i := 14) rfl)) (by decide +kernel)
set_option maxRecDepth 1000000 in
theorem gw_46 : GoodIn lw_tbl [(.selects RX8 yX8_refuse yX8_refuse : Cond)] := gi_one (mb_0 _ (List.mem_of_getElem? (i := 15) rfl)) (by decide +kernel)
set_option maxRecDepth 1000000 in
theorem gw_175 : GoodIn lw_tbl [(.selects RX7 yX7_isFull yX7_isFull : Cond)] := gi_one (mb_0 _ (List.mem_of_getElem? (i := 16) rfl)) (by decide +kernel)
set_option maxRecDepth 1000000 in
theorem gw_190 : GoodIn lw_tbl [(.selects RX8 yX8_takeWord yX8_takeWord : Cond)] := gi_one (mb_0 _ (List.mem_of_getElem? (i := 17) rfl)) (by decide +kernel)
set_option maxRecDepth 1000000 in
theorem gw_58 : GoodIn lw_tbl [(.selects RX7 yX7_readNumbers yX7_readNumbers : Cond)] := gi_one (mb_0 _ (List.mem_of_getElem? (i := 18) rfl)) (by decide +kernel)
set_option maxRecDepth 1000000 in
theorem gw_61 : GoodIn lw_tbl [(.selects RX7 yX7_readWork yX7_readWork : Cond)] := gi_one (mb_0 _ (List.mem_of_getElem? (i := 19) rfl)) (by decide +kernel)
set_option maxRecDepth 1000000 in
theorem gw_83 : GoodIn lw_tbl [(.selects RX8 yX8_number yX8_number : Cond)] := gi_one (mb_0 _ (List.mem_of_getElem? (i := 20) rfl)) (by decide +kernel)
set_option maxRecDepth 1000000 in
theorem gw_81 : GoodIn lw_tbl [(.selects RX8 yX8_good yX8_good : Cond)] := gi_one (mb_0 _ (List.mem_of_getElem? (i := 21) rfl)) (by decide +kernel)
set_option maxRecDepth 1000000 in
theorem gw_78 : GoodIn lw_tbl [(.selects RX6 yX6_addWork yX6_addWork : Cond)] := gi_one (mb_0 _ (List.mem_of_getElem? (i := 22) rfl)) (by decide +kernel)
set_option maxRecDepth 1000000 in
theorem gw_87 : GoodIn lw_tbl [(.selects RX7 yX7_readSize yX7_readSize : Cond)] := gi_one (mb_0 _ (List.mem_of_getElem? (i := 23) rfl)) (by decide +kernel)
set_option maxRecDepth 1000000 in
theorem gw_91 : GoodIn lw_tbl [(.selects RX7 yX7_readPerson yX7_readPerson : Cond)] := gi_one (mb_0 _ (List.mem_of_getElem? (i := 24) rfl)) (by decide +kernel)
set_option maxRecDepth 1000000 in
theorem gw_102 : GoodIn lw_tbl [(.selects RX6 yX6_addPerson yX6_addPerson : Cond)] := gi_one (mb_0 _ (List.mem_of_getElem? (i := 25) rfl)) (by decide +kernel)
set_option maxRecDepth 1000000 in
theorem gw_94 : GoodIn lw_tbl [(.selects RX6 yX6_putPerson yX6_putPerson : Cond)] := gi_one (mb_0 _ (List.mem_of_getElem? (i := 26) rfl)) (by decide +kernel)
set_option maxRecDepth 1000000 in
theorem gw_104 : GoodIn lw_tbl [(.selects RX7 yX7_readShelter yX7_readShelter : Cond)] := gi_one (mb_0 _ (List.mem_of_getElem? (i := 27) rfl)) (by decide +kernel)
set_option maxRecDepth 1000000 in
theorem gw_111 : GoodIn lw_tbl [(.selects RX6 yX6_addShelter yX6_addShelter : Cond)] := gi_one (mb_0 _ (List.mem_of_getElem? (i := 28) rfl)) (by decide +kernel)
set_option maxRecDepth 1000000 in
theorem gw_113 : GoodIn lw_tbl [(.selects RX7 yX7_readOfCell yX7_readOfCell : Cond)] := gi_one (mb_0 _ (List.mem_of_getElem? (i := 29) rfl)) (by decide +kernel)
set_option maxRecDepth 1000000 in
theorem gw_121 : GoodIn lw_tbl [(.selects RX6 yX6_index yX6_index : Cond)] := gi_one (mb_0 _ (List.mem_of_getElem? (i := 30) rfl)) (by decide +kernel)
set_option maxRecDepth 1000000 in
theorem gw_123 : GoodIn lw_tbl [(.selects RX6 yX6_addDrain yX6_addDrain : Cond)] := gi_one (mb_0 _ (List.mem_of_getElem? (i := 31) rfl)) (by decide +kernel)
set_option maxRecDepth 1000000 in
theorem gw_188 : GoodIn lw_tbl [(.selects RX8 yX8_want yX8_want : Cond)] := gi_one (mb_0 _ (List.mem_of_getElem? (i := 32) rfl)) (by decide +kernel)
set_option maxRecDepth 1000000 in
theorem gw_234 : GoodIn lw_tbl [(.selects RX4 yX4_reset yX4_reset : Cond)] := gi_one (mb_0 _ (List.mem_of_getElem? (i := 33) rfl)) (by decide +kernel)
set_option maxRecDepth 1000000 in
theorem gw_231 : GoodIn lw_tbl [(.selects RX6 yX6_cells yX6_cells : Cond)] := gi_one (mb_0 _ (List.mem_of_getElem? (i := 34) rfl)) (by decide +kernel)
set_option maxRecDepth 1000000 in
theorem gw_375 : GoodIn lw_tbl [(.selects RX5 yX5_read yX5_read : Cond)] := gi_one (mb_0 _ (List.mem_of_getElem? (i := 35) rfl)) (by decide +kernel)
set_option maxRecDepth 1000000 in
theorem gw_359 : GoodIn lw_tbl [(.selects RX5 yX5_readPiece yX5_readPiece : Cond)] := gi_one (mb_0 _ (List.mem_of_getElem? (i := 36) rfl)) (by decide +kernel)
set_option maxRecDepth 1000000 in
theorem gw_370 : GoodIn lw_tbl [(.selects RX8 yX8_wantWord yX8_wantWord : Cond)] := gi_one (mb_0 _ (List.mem_of_getElem? (i := 37) rfl)) (by decide +kernel)
set_option maxRecDepth 1000000 in
theorem gw_362 : GoodIn lw_tbl [(.selects RX5 yX5_add yX5_add : Cond)] := gi_one (mb_0 _ (List.mem_of_getElem? (i := 38) rfl)) (by decide +kernel)
set_option maxRecDepth 1000000 in
theorem gw_464 : GoodIn lw_tbl [(.selects RX2 yX2_read yX2_read : Cond)] := gi_one (mb_0 _ (List.mem_of_getElem? (i := 39) rfl)) (by decide +kernel)
set_option maxRecDepth 1000000 in
theorem gw_459 : GoodIn lw_tbl [(.selects RX1 yX1_reset yX1_reset : Cond)] := gi_one (mb_0 _ (List.mem_of_getElem? (i := 40) rfl)) (by decide +kernel)
set_option maxRecDepth 1000000 in
theorem gw_394 : GoodIn lw_tbl [(.selects RX2 yX2_readSaying yX2_readSaying : Cond)] := gi_one (mb_0 _ (List.mem_of_getElem? (i := 41) rfl)) (by decide +kernel)
set_option maxRecDepth 1000000 in
theorem gw_400 : GoodIn lw_tbl [(.selects RX2 yX2_readValue yX2_readValue : Cond)] := gi_one (mb_0 _ (List.mem_of_getElem? (i := 42) rfl)) (by decide +kernel)
set_option maxRecDepth 1000000 in
theorem gw_427 : GoodIn lw_tbl [(.selects RX2 yX2_readChoice yX2_readChoice : Cond)] := gi_one (mb_0 _ (List.mem_of_getElem? (i := 43) rfl)) (by decide +kernel)
set_option maxRecDepth 1000000 in
theorem gw_405 : GoodIn lw_tbl [(.selects RX2 yX2_open yX2_open : Cond)] := gi_one (mb_0 _ (List.mem_of_getElem? (i := 44) rfl)) (by decide +kernel)
set_option maxRecDepth 1000000 in
theorem gw_439 : GoodIn lw_tbl [(.selects RX2 yX2_readCondition yX2_readCondition : Cond)] := gi_one (mb_0 _ (List.mem_of_getElem? (i := 45) rfl)) (by decide +kernel)
set_option maxRecDepth 1000000 in
theorem gw_413 : GoodIn lw_tbl [(.selects RX2 yX2_readAlternative yX2_readAlternative : Cond)] := gi_one (mb_0 _ (List.mem_of_getElem? (i := 46) rfl)) (by decide +kernel)
set_option maxRecDepth 1000000 in
theorem gw_418 : GoodIn lw_tbl [(.selects RX2 yX2_readTest yX2_readTest : Cond)] := gi_one (mb_0 _ (List.mem_of_getElem? (i := 47) rfl)) (by decide +kernel)
set_option maxRecDepth 1000000 in
theorem gw_450 : GoodIn lw_tbl [(.selects RX1 yX1_add yX1_add : Cond)] := gi_one (mb_0 _ (List.mem_of_getElem? (i := 48) rfl)) (by decide +kernel)
set_option maxRecDepth 1000000 in
theorem gw_422 : GoodIn lw_tbl [(.selects RX2 yX2_readComparison yX2_readComparison : Cond)] := gi_one (mb_0 _ (List.mem_of_getElem? (i := 49) rfl)) (by decide +kernel)
set_option maxRecDepth 1000000 in
theorem gw_443 : GoodIn lw_tbl [(.selects RX8 yX8_take yX8_take : Cond)] := gi_one (mb_0 _ (List.mem_of_getElem? (i := 50) rfl)) (by decide +kernel)
set_option maxRecDepth 1000000 in
theorem gw_434 : GoodIn lw_tbl [(.selects RX1 yX1_aim yX1_aim : Cond)] := gi_one (mb_0 _ (List.mem_of_getElem? (i := 51) rfl)) (by decide +kernel)
set_option maxRecDepth 1000000 in
theorem gw_431 : GoodIn lw_tbl [(.selects RX2 yX2_readProduct yX2_readProduct : Cond)] := gi_one (mb_0 _ (List.mem_of_getElem? (i := 52) rfl)) (by decide +kernel)
set_option maxRecDepth 1000000 in
theorem gw_446 : GoodIn lw_tbl [(.selects RX2 yX2_readUnit yX2_readUnit : Cond)] := gi_one (mb_0 _ (List.mem_of_getElem? (i := 53) rfl)) (by decide +kernel)
set_option maxRecDepth 1000000 in
theorem gw_554 : GoodIn lw_tbl [(.selects RX11 yX11_needCell yX11_needCell : Cond)] := gi_one (mb_0 _ (List.mem_of_getElem? (i := 54) rfl)) (by decide +kernel)
set_option maxRecDepth 1000000 in
theorem gw_561 : GoodIn lw_tbl [(.selects RX6 yX6_has yX6_has : Cond)] := gi_one (mb_0 _ (List.mem_of_getElem? (i := 55) rfl)) (by decide +kernel)
set_option maxRecDepth 1000000 in
theorem gw_564 : GoodIn lw_tbl [(.selects RX6 yX6_surface yX6_surface : Cond)] := gi_one (mb_0 _ (List.mem_of_getElem? (i := 56) rfl)) (by decide +kernel)
set_option maxRecDepth 1000000 in
theorem gw_588 : GoodIn lw_tbl [(.selects RX11 yX11_needElement yX11_needElement : Cond)] := gi_one (mb_0 _ (List.mem_of_getElem? (i := 57) rfl)) (by decide +kernel)
set_option maxRecDepth 1000000 in
theorem gw_662 : GoodIn lw_tbl [(.selects RX6 yX6_doWork yX6_doWork : Cond)] := gi_one (mb_0 _ (List.mem_of_getElem? (i := 58) rfl)) (by decide +kernel)
set_option maxRecDepth 1000000 in
theorem gw_653 : GoodIn lw_tbl [(.selects RX6 yX6_changeHeight yX6_changeHeight : Cond)] := gi_one (mb_0 _ (List.mem_of_getElem? (i := 59) rfl)) (by decide +kernel)
set_option maxRecDepth 1000000 in
theorem gw_714 : GoodIn lw_tbl [(.selects RX6 yX6_isTold yX6_isTold : Cond)] := gi_one (mb_0 _ (List.mem_of_getElem? (i := 60) rfl)) (by decide +kernel)
set_option maxRecDepth 1000000 in
theorem gw_712 : GoodIn lw_tbl [(.selects RX6 yX6_hasTime yX6_hasTime : Cond)] := gi_one (mb_0 _ (List.mem_of_getElem? (i := 61) rfl)) (by decide +kernel)
set_option maxRecDepth 1000000 in
theorem gw_702 : GoodIn lw_tbl [(.selects RX11 yX11_needState yX11_needState : Cond)] := gi_one (mb_0 _ (List.mem_of_getElem? (i := 62) rfl)) (by decide +kernel)
set_option maxRecDepth 1000000 in
theorem gw_710 : GoodIn lw_tbl [(.selects RX6 yX6_passMinutes yX6_passMinutes : Cond)] := gi_one (mb_0 _ (List.mem_of_getElem? (i := 63) rfl)) (by decide +kernel)
set_option maxRecDepth 1000000 in
theorem gw_678 : GoodIn lw_tbl [(.selects RX6 yX6_passMinute yX6_passMinute : Cond)] := gi_one (mb_0 _ (List.mem_of_getElem? (i := 64) rfl)) (by decide +kernel)
set_option maxRecDepth 1000000 in
theorem gw_686 : GoodIn lw_tbl [(.selects RX6 yX6_runRounds yX6_runRounds : Cond)] := gi_one (mb_0 _ (List.mem_of_getElem? (i := 65) rfl)) (by decide +kernel)
set_option maxRecDepth 1000000 in
theorem gw_689 : GoodIn lw_tbl [(.selects RX6 yX6_runRound yX6_runRound : Cond)] := gi_one (mb_0 _ (List.mem_of_getElem? (i := 66) rfl)) (by decide +kernel)
set_option maxRecDepth 1000000 in
theorem gw_692 : GoodIn lw_tbl [(.selects RX6 yX6_runFrom yX6_runFrom : Cond)] := gi_one (mb_0 _ (List.mem_of_getElem? (i := 67) rfl)) (by decide +kernel)
set_option maxRecDepth 1000000 in
theorem gw_681 : GoodIn lw_tbl [(.selects RX6 yX6_takeByDrain yX6_takeByDrain : Cond)] := gi_one (mb_0 _ (List.mem_of_getElem? (i := 68) rfl)) (by decide +kernel)
set_option maxRecDepth 1000000 in
theorem gw_744 : GoodIn lw_tbl [(.selects RX11 yX11_needRain yX11_needRain : Cond)] := gi_one (mb_0 _ (List.mem_of_getElem? (i := 69) rfl)) (by decide +kernel)
set_option maxRecDepth 1000000 in
theorem gw_749 : GoodIn lw_tbl [(.selects RX6 yX6_passRain yX6_passRain : Cond)] := gi_one (mb_0 _ (List.mem_of_getElem? (i := 70) rfl)) (by decide +kernel)
set_option maxRecDepth 1000000 in
theorem gw_773 : GoodIn lw_tbl [(.selects RX6 yX6_standing yX6_standing : Cond)] := gi_one (mb_0 _ (List.mem_of_getElem? (i := 71) rfl)) (by decide +kernel)
set_option maxRecDepth 1000000 in
theorem gw_794 : GoodIn lw_tbl [(.selects RX11 yX11_needLaw yX11_needLaw : Cond)] := gi_one (mb_0 _ (List.mem_of_getElem? (i := 72) rfl)) (by decide +kernel)
set_option maxRecDepth 1000000 in
theorem gw_799 : GoodIn lw_tbl [(.selects RX1 yX1_value yX1_value : Cond)] := gi_one (mb_0 _ (List.mem_of_getElem? (i := 73) rfl)) (by decide +kernel)
set_option maxRecDepth 1000000 in
theorem gw_857 : GoodIn lw_tbl [(.selects RX11 yX11_isCar yX11_isCar : Cond)] := gi_one (mb_0 _ (List.mem_of_getElem? (i := 74) rfl)) (by decide +kernel)
set_option maxRecDepth 1000000 in
theorem gw_864 : GoodIn lw_tbl [(.selects RX0 yX0_become yX0_become : Cond)] := gi_one (mb_0 _ (List.mem_of_getElem? (i := 75) rfl)) (by decide +kernel)
set_option maxRecDepth 1000000 in
theorem gw_862 : GoodIn lw_tbl [(.selects RX0 yX0_drive yX0_drive : Cond)] := gi_one (mb_0 _ (List.mem_of_getElem? (i := 76) rfl)) (by decide +kernel)
set_option maxRecDepth 1000000 in
theorem gw_837 : GoodIn lw_tbl [(.selects RX0 yX0_come yX0_come : Cond)] := gi_one (mb_0 _ (List.mem_of_getElem? (i := 77) rfl)) (by decide +kernel)
set_option maxRecDepth 1000000 in
theorem gw_850 : GoodIn lw_tbl [(.selects RX6 yX6_peopleAt yX6_peopleAt : Cond)] := gi_one (mb_0 _ (List.mem_of_getElem? (i := 78) rfl)) (by decide +kernel)
set_option maxRecDepth 1000000 in
theorem gw_840 : GoodIn lw_tbl [(.selects RX0 yX0_see yX0_see : Cond)] := gi_one (mb_0 _ (List.mem_of_getElem? (i := 79) rfl)) (by decide +kernel)
set_option maxRecDepth 1000000 in
theorem gw_854 : GoodIn lw_tbl [(.selects RX6 yX6_throwFrom yX6_throwFrom : Cond)] := gi_one (mb_0 _ (List.mem_of_getElem? (i := 80) rfl)) (by decide +kernel)
set_option maxRecDepth 1000000 in
theorem gw_827 : GoodIn lw_tbl [(.selects RX0 yX0_hit yX0_hit : Cond)] := gi_one (mb_0 _ (List.mem_of_getElem? (i := 81) rfl)) (by decide +kernel)
set_option maxRecDepth 1000000 in
theorem gw_832 : GoodIn lw_tbl [(.selects RX6 yX6_isSheltered yX6_isSheltered : Cond)] := gi_one (mb_0 _ (List.mem_of_getElem? (i := 82) rfl)) (by decide +kernel)
set_option maxRecDepth 1000000 in
theorem gw_912 : GoodIn lw_tbl [(.selects RX4 yX4_addCar yX4_addCar : Cond)] := gi_one (mb_0 _ (List.mem_of_getElem? (i := 83) rfl)) (by decide +kernel)
set_option maxRecDepth 1000000 in
theorem gw_927 : GoodIn lw_tbl [(.selects RX9 yX9_passTraffic yX9_passTraffic : Cond)] := gi_one (mb_0 _ (List.mem_of_getElem? (i := 84) rfl)) (by decide +kernel)
set_option maxRecDepth 1000000 in
theorem gw_962 : GoodIn lw_tbl [(.selects RX9 yX9_depthBehind yX9_depthBehind : Cond)] := gi_one (mb_0 _ (List.mem_of_getElem? (i := 85) rfl)) (by decide +kernel)
set_option maxRecDepth 1000000 in
theorem gw_989 : GoodIn lw_tbl [(.selects RX9 yX9_minuteOf yX9_minuteOf : Cond)] := gi_one (mb_0 _ (List.mem_of_getElem? (i := 86) rfl)) (by decide +kernel)
set_option maxRecDepth 1000000 in
theorem gw_1008 : GoodIn lw_tbl [(.selects RX9 yX9_findBlame yX9_findBlame : Cond)] := gi_one (mb_0 _ (List.mem_of_getElem? (i := 87) rfl)) (by decide +kernel)
set_option maxRecDepth 1000000 in
theorem gw_1006 : GoodIn lw_tbl [(.selects RX9 yX9_answer yX9_answer : Cond)] := gi_one (mb_0 _ (List.mem_of_getElem? (i := 88) rfl)) (by decide +kernel)
set_option maxRecDepth 1000000 in
theorem gw_1028 : GoodIn lw_tbl [(.selects RX9 yX9_findLook yX9_findLook : Cond)] := gi_one (mb_0 _ (List.mem_of_getElem? (i := 89) rfl)) (by decide +kernel)
set_option maxRecDepth 1000000 in
theorem gw_1020 : GoodIn lw_tbl [(.selects RX9 yX9_kindsAt yX9_kindsAt : Cond)] := gi_one (mb_0 _ (List.mem_of_getElem? (i := 90) rfl)) (by decide +kernel)
set_option maxRecDepth 1000000 in
theorem gw_1052 : GoodIn lw_tbl [(.selects RX9 yX9_findStand yX9_findStand : Cond)] := gi_one (mb_0 _ (List.mem_of_getElem? (i := 91) rfl)) (by decide +kernel)
set_option maxRecDepth 1000000 in
theorem gw_1048 : GoodIn lw_tbl [(.selects RX6 yX6_guessPerson yX6_guessPerson : Cond)] := gi_one (mb_0 _ (List.mem_of_getElem? (i := 92) rfl)) (by decide +kernel)
set_option maxRecDepth 1000000 in
theorem gw_1066 : GoodIn lw_tbl [(.selects RX9 yX9_greatestPace yX9_greatestPace : Cond)] := gi_one (mb_0 _ (List.mem_of_getElem? (i := 93) rfl)) (by decide +kernel)
set_option maxRecDepth 1000000 in
theorem gw_1086 : GoodIn lw_tbl [(.selects RX9 yX9_findStep yX9_findStep : Cond)] := gi_one (mb_0 _ (List.mem_of_getElem? (i := 94) rfl)) (by decide +kernel)
set_option maxRecDepth 1000000 in
theorem gw_1083 : GoodIn lw_tbl [(.selects RX6 yX6_canStep yX6_canStep : Cond)] := gi_one (mb_0 _ (List.mem_of_getElem? (i := 95) rfl)) (by decide +kernel)
set_option maxRecDepth 1000000 in
theorem gw_1081 : GoodIn lw_tbl [(.selects RX6 yX6_stepAll yX6_stepAll : Cond)] := gi_one (mb_0 _ (List.mem_of_getElem? (i := 96) rfl)) (by decide +kernel)
set_option maxRecDepth 1000000 in
theorem gw_1115 : GoodIn lw_tbl [(.selects RX9 yX9_findMend yX9_findMend : Cond)] := gi_one (mb_0 _ (List.mem_of_getElem? (i := 97) rfl)) (by decide +kernel)
set_option maxRecDepth 1000000 in
theorem gw_1104 : GoodIn lw_tbl [(.selects RX9 yX9_nextRank yX9_nextRank : Cond)] := gi_one (mb_0 _ (List.mem_of_getElem? (i := 98) rfl)) (by decide +kernel)
set_option maxRecDepth 1000000 in
theorem gw_1109 : GoodIn lw_tbl [(.selects RX6 yX6_coinOf yX6_coinOf : Cond)] := gi_one (mb_0 _ (List.mem_of_getElem? (i := 99) rfl)) (by decide +kernel)
set_option maxRecDepth 1000000 in
theorem gw_1112 : GoodIn lw_tbl [(.selects RX6 yX6_doWorks yX6_doWorks : Cond)] := gi_one (mb_0 _ (List.mem_of_getElem? (i := 100) rfl)) (by decide +kernel)
set_option maxRecDepth 1000000 in
theorem gw_1140 : GoodIn lw_tbl [(.selects RX9 yX9_shareMeant yX9_shareMeant : Cond)] := gi_one (mb_0 _ (List.mem_of_getElem? (i := 101) rfl)) (by decide +kernel)
set_option maxRecDepth 1000000 in
theorem gw_1155 : GoodIn lw_tbl [(.selects RX4 yX4_addDip yX4_addDip : Cond)] := gi_one (mb_0 _ (List.mem_of_getElem? (i := 102) rfl)) (by decide +kernel)
set_option maxRecDepth 1000000 in
theorem gw_1187 : GoodIn lw_tbl [(.selects RX3 yX3_findFirst yX3_findFirst : Cond)] := gi_one (mb_0 _ (List.mem_of_getElem? (i := 103) rfl)) (by decide +kernel)
set_option maxRecDepth 1000000 in
theorem gw_1174 : GoodIn lw_tbl [(.selects RX3 yX3_bestNext yX3_bestNext : Cond)] := gi_one (mb_0 _ (List.mem_of_getElem? (i := 104) rfl)) (by decide +kernel)
set_option maxRecDepth 1000000 in
theorem gw_1168 : GoodIn lw_tbl [(.selects RX3 yX3_weigh yX3_weigh : Cond)] := gi_one (mb_0 _ (List.mem_of_getElem? (i := 105) rfl)) (by decide +kernel)
set_option maxRecDepth 1000000 in
theorem gw_1225 : GoodIn lw_tbl [(.selects RX3 yX3_findSweeping yX3_findSweeping : Cond)] := gi_one (mb_0 _ (List.mem_of_getElem? (i := 106) rfl)) (by decide +kernel)
set_option maxRecDepth 1000000 in
theorem gw_1210 : GoodIn lw_tbl [(.selects RX3 yX3_goOn yX3_goOn : Cond)] := gi_one (mb_0 _ (List.mem_of_getElem? (i := 107) rfl)) (by decide +kernel)
set_option maxRecDepth 1000000 in
theorem gw_1251 : GoodIn lw_tbl [(.selects RX6 yX6_iceCells yX6_iceCells : Cond)] := gi_one (mb_0 _ (List.mem_of_getElem? (i := 108) rfl)) (by decide +kernel)
set_option maxRecDepth 1000000 in
theorem gw_1253 : GoodIn lw_tbl [(.selects RX6 yX6_longestIce yX6_longestIce : Cond)] := gi_one (mb_0 _ (List.mem_of_getElem? (i := 109) rfl)) (by decide +kernel)
set_option maxRecDepth 1000000 in
theorem gw_1255 : GoodIn lw_tbl [(.selects RX6 yX6_personsOnIce yX6_personsOnIce : Cond)] := gi_one (mb_0 _ (List.mem_of_getElem? (i := 110) rfl)) (by decide +kernel)
set_option maxRecDepth 1000000 in
theorem gw_344 : GoodIn lw_tbl [(.selects RX12 yX12_may yX12_may : Cond)] := gi_one (mb_0 _ (List.mem_of_getElem? (i := 111) rfl)) (by decide +kernel)
set_option maxRecDepth 1000000 in
theorem gw_339 : GoodIn lw_tbl [(.selects RX12 yX12_begins yX12_begins : Cond)] := gi_one (mb_0 _ (List.mem_of_getElem? (i := 112) rfl)) (by decide +kernel)
set_option maxRecDepth 1000000 in
theorem gw_273 : GoodIn lw_tbl [(.selects RX12 yX12_fine yX12_fine : Cond)] := gi_one (mb_0 _ (List.mem_of_getElem? (i := 113) rfl)) (by decide +kernel)
set_option maxRecDepth 1000000 in
theorem gw_330 : GoodIn lw_tbl [(.selects RX12 yX12_isMore yX12_isMore : Cond)] := gi_one (mb_0 _ (List.mem_of_getElem? (i := 114) rfl)) (by decide +kernel)
set_option maxRecDepth 1000000 in
theorem gw_267 : GoodIn lw_tbl [(.selects RX12 yX12_here yX12_here : Cond)] := gi_one (mb_0 _ (List.mem_of_getElem? (i := 115) rfl)) (by decide +kernel)
set_option maxRecDepth 1000000 in
theorem gw_321 : GoodIn lw_tbl [(.selects RX12 yX12_word yX12_word : Cond)] := gi_one (mb_0 _ (List.mem_of_getElem? (i := 116) rfl)) (by decide +kernel)
set_option maxRecDepth 1000000 in
theorem gw_326 : GoodIn lw_tbl [(.selects RX12 yX12_isWord yX12_isWord : Cond)] := gi_one (mb_0 _ (List.mem_of_getElem? (i := 117) rfl)) (by decide +kernel)
set_option maxRecDepth 1000000 in
theorem gw_261 : GoodIn lw_tbl [(.selects RX12 yX12_wrong yX12_wrong : Cond)] := gi_one (mb_0 _ (List.mem_of_getElem? (i := 118) rfl)) (by decide +kernel)
set_option maxRecDepth 1000000 in
theorem gw_278 : GoodIn lw_tbl [(.selects RX12 yX12_readClause yX12_readClause : Cond)] := gi_one (mb_0 _ (List.mem_of_getElem? (i := 119) rfl)) (by decide +kernel)
set_option maxRecDepth 1000000 in
theorem gw_314 : GoodIn lw_tbl [(.selects RX12 yX12_pass yX12_pass : Cond)] := gi_one (mb_0 _ (List.mem_of_getElem? (i := 120) rfl)) (by decide +kernel)
set_option maxRecDepth 1000000 in
theorem gw_301 : GoodIn lw_tbl [(.selects RX12 yX12_readShelter yX12_readShelter : Cond)] := gi_one (mb_0 _ (List.mem_of_getElem? (i := 121) rfl)) (by decide +kernel)
set_option maxRecDepth 1000000 in
theorem gw_296 : GoodIn lw_tbl [(.selects RX12 yX12_readX yX12_readX : Cond)] := gi_one (mb_0 _ (List.mem_of_getElem? (i := 122) rfl)) (by decide +kernel)
set_option maxRecDepth 1000000 in
theorem gw_284 : GoodIn lw_tbl [(.selects RX12 yX12_readNumber yX12_readNumber : Cond)] := gi_one (mb_0 _ (List.mem_of_getElem? (i := 123) rfl)) (by decide +kernel)
set_option maxRecDepth 1000000 in
theorem gw_291 : GoodIn lw_tbl [(.selects RX12 yX12_readY yX12_readY : Cond)] := gi_one (mb_0 _ (List.mem_of_getElem? (i := 124) rfl)) (by decide +kernel)
set_option maxRecDepth 1000000 in
theorem gw_310 : GoodIn lw_tbl [(.selects RX12 yX12_readDrain yX12_readDrain : Cond)] := gi_one (mb_0 _ (List.mem_of_getElem? (i := 125) rfl)) (by decide +kernel)
set_option maxRecDepth 1000000 in
theorem gw_305 : GoodIn lw_tbl [(.selects RX12 yX12_readPerson yX12_readPerson : Cond)] := gi_one (mb_0 _ (List.mem_of_getElem? (i := 126) rfl)) (by decide +kernel)
set_option maxRecDepth 1000000 in
theorem gw_281 : GoodIn lw_tbl [(.selects RX12 yX12_readWork yX12_readWork : Cond)] := gi_one (mb_0 _ (List.mem_of_getElem? (i := 127) rfl)) (by decide +kernel)
set_option maxRecDepth 1000000 in
theorem gw_258 : GoodIn lw_tbl [(.selects RX12 yX12_sign yX12_sign : Cond)] := gi_one (mb_0 _ (List.mem_of_getElem? (i := 128) rfl)) (by decide +kernel)
set_option maxRecDepth 1000000 in
theorem gw_334 : GoodIn lw_tbl [(.selects RX12 yX12_result yX12_result : Cond)] := gi_one (mb_0 _ (List.mem_of_getElem? (i := 129) rfl)) (by decide +kernel)
set_option maxRecDepth 1000000 in
theorem gw_475 : GoodIn lw_tbl [(.selects RX12 yX12_whole yX12_whole : Cond)] := gi_one (mb_0 _ (List.mem_of_getElem? (i := 130) rfl)) (by decide +kernel)
set_option maxRecDepth 1000000 in
theorem gw_482 : GoodIn lw_tbl [(.selects RX12 yX12_opensOne yX12_opensOne : Cond)] := gi_one (mb_0 _ (List.mem_of_getElem? (i := 131) rfl)) (by decide +kernel)
set_option maxRecDepth 1000000 in
theorem gw_507 : GoodIn lw_tbl [(.selects RX12 yX12_anyOf yX12_anyOf : Cond)] := gi_one (mb_0 _ (List.mem_of_getElem? (i := 132) rfl)) (by decide +kernel)
set_option maxRecDepth 1000000 in
theorem gw_499 : GoodIn lw_tbl [(.selects RX12 yX12_allOf yX12_allOf : Cond)] := gi_one (mb_0 _ (List.mem_of_getElem? (i := 133) rfl)) (by decide +kernel)
set_option maxRecDepth 1000000 in
theorem gw_503 : GoodIn lw_tbl [(.selects RX12 yX12_oneOf yX12_oneOf : Cond)] := gi_one (mb_0 _ (List.mem_of_getElem? (i := 134) rfl)) (by decide +kernel)
set_option maxRecDepth 1000000 in
theorem gw_486 : GoodIn lw_tbl [(.selects RX12 yX12_emit yX12_emit : Cond)] := gi_one (mb_0 _ (List.mem_of_getElem? (i := 135) rfl)) (by decide +kernel)
set_option maxRecDepth 1000000 in
theorem gw_478 : GoodIn lw_tbl [(.selects RX12 yX12_keyword yX12_keyword : Cond)] := gi_one (mb_0 _ (List.mem_of_getElem? (i := 136) rfl)) (by decide +kernel)
set_option maxRecDepth 1000000 in
theorem gw_511 : GoodIn lw_tbl [(.selects RX12 yX12_product yX12_product : Cond)] := gi_one (mb_0 _ (List.mem_of_getElem? (i := 137) rfl)) (by decide +kernel)
set_option maxRecDepth 1000000 in
theorem gw_515 : GoodIn lw_tbl [(.selects RX12 yX12_unit yX12_unit : Cond)] := gi_one (mb_0 _ (List.mem_of_getElem? (i := 138) rfl)) (by decide +kernel)
set_option maxRecDepth 1000000 in
theorem gw_494 : GoodIn lw_tbl [(.selects RX12 yX12_nameHere yX12_nameHere : Cond)] := gi_one (mb_0 _ (List.mem_of_getElem? (i := 139) rfl)) (by decide +kernel)
set_option maxRecDepth 1000000 in
theorem gw_540 : GoodIn lw_tbl [(.selects RX12 yX12_drains yX12_drains : Cond)] := gi_one (mb_0 _ (List.mem_of_getElem? (i := 140) rfl)) (by decide +kernel)
set_option maxRecDepth 1000000 in
theorem gw_578 : GoodIn lw_tbl [(.selects RX12 yX12_isCell yX12_isCell : Cond)] := gi_one (mb_0 _ (List.mem_of_getElem? (i := 141) rfl)) (by decide +kernel)
set_option maxRecDepth 1000000 in
theorem gw_571 : GoodIn lw_tbl [(.selects RX12 yX12_surface yX12_surface : Cond)] := gi_one (mb_0 _ (List.mem_of_getElem? (i := 142) rfl)) (by decide +kernel)
set_option maxRecDepth 1000000 in
theorem gw_600 : GoodIn lw_tbl [(.selects RX12 yX12_leavesOf yX12_leavesOf : Cond)] := gi_one (mb_0 _ (List.mem_of_getElem? (i := 143) rfl)) (by decide +kernel)
set_option maxRecDepth 1000000 in
theorem gw_605 : GoodIn lw_tbl [(.selects RX12 yX12_drainTold yX12_drainTold : Cond)] := gi_one (mb_0 _ (List.mem_of_getElem? (i := 144) rfl)) (by decide +kernel)
set_option maxRecDepth 1000000 in
theorem gw_642 : GoodIn lw_tbl [(.selects RX12 yX12_isWork yX12_isWork : Cond)] := gi_one (mb_0 _ (List.mem_of_getElem? (i := 145) rfl)) (by decide +kernel)
set_option maxRecDepth 1000000 in
theorem gw_668 : GoodIn lw_tbl [(.selects RX12 yX12_works yX12_works : Cond)] := gi_one (mb_0 _ (List.mem_of_getElem? (i := 146) rfl)) (by decide +kernel)
set_option maxRecDepth 1000000 in
theorem gw_733 : GoodIn lw_tbl [(.selects RX12 yX12_isNow yX12_isNow : Cond)] := gi_one (mb_0 _ (List.mem_of_getElem? (i := 147) rfl)) (by decide +kernel)
set_option maxRecDepth 1000000 in
theorem gw_721 : GoodIn lw_tbl [(.selects RX12 yX12_minute yX12_minute : Cond)] := gi_one (mb_0 _ (List.mem_of_getElem? (i := 148) rfl)) (by decide +kernel)
set_option maxRecDepth 1000000 in
theorem gw_724 : GoodIn lw_tbl [(.selects RX12 yX12_round yX12_round : Cond)] := gi_one (mb_0 _ (List.mem_of_getElem? (i := 149) rfl)) (by decide +kernel)
set_option maxRecDepth 1000000 in
theorem gw_727 : GoodIn lw_tbl [(.selects RX12 yX12_runsTo yX12_runsTo : Cond)] := gi_one (mb_0 _ (List.mem_of_getElem? (i := 150) rfl)) (by decide +kernel)
set_option maxRecDepth 1000000 in
theorem gw_761 : GoodIn lw_tbl [(.selects RX12 yX12_isRain yX12_isRain : Cond)] := gi_one (mb_0 _ (List.mem_of_getElem? (i := 151) rfl)) (by decide +kernel)
set_option maxRecDepth 1000000 in
theorem gw_755 : GoodIn lw_tbl [(.selects RX12 yX12_showers yX12_showers : Cond)] := gi_one (mb_0 _ (List.mem_of_getElem? (i := 152) rfl)) (by decide +kernel)
set_option maxRecDepth 1000000 in
theorem gw_779 : GoodIn lw_tbl [(.selects RX12 yX12_standing yX12_standing : Cond)] := gi_one (mb_0 _ (List.mem_of_getElem? (i := 153) rfl)) (by decide +kernel)
set_option maxRecDepth 1000000 in
theorem gw_816 : GoodIn lw_tbl [(.selects RX12 yX12_isLaw yX12_isLaw : Cond)] := gi_one (mb_0 _ (List.mem_of_getElem? (i := 154) rfl)) (by decide +kernel)
set_option maxRecDepth 1000000 in
theorem gw_812 : GoodIn lw_tbl [(.selects RX12 yX12_name yX12_name : Cond)] := gi_one (mb_0 _ (List.mem_of_getElem? (i := 155) rfl)) (by decide +kernel)
set_option maxRecDepth 1000000 in
theorem gw_806 : GoodIn lw_tbl [(.selects RX12 yX12_worked yX12_worked : Cond)] := gi_one (mb_0 _ (List.mem_of_getElem? (i := 156) rfl)) (by decide +kernel)
set_option maxRecDepth 1000000 in
theorem gw_899 : GoodIn lw_tbl [(.selects RX12 yX12_isCar yX12_isCar : Cond)] := gi_one (mb_0 _ (List.mem_of_getElem? (i := 157) rfl)) (by decide +kernel)
set_option maxRecDepth 1000000 in
theorem gw_895 : GoodIn lw_tbl [(.selects RX12 yX12_isStreet yX12_isStreet : Cond)] := gi_one (mb_0 _ (List.mem_of_getElem? (i := 158) rfl)) (by decide +kernel)
set_option maxRecDepth 1000000 in
theorem gw_870 : GoodIn lw_tbl [(.selects RX12 yX12_passes yX12_passes : Cond)] := gi_one (mb_0 _ (List.mem_of_getElem? (i := 159) rfl)) (by decide +kernel)
set_option maxRecDepth 1000000 in
theorem gw_884 : GoodIn lw_tbl [(.selects RX12 yX12_drives yX12_drives : Cond)] := gi_one (mb_0 _ (List.mem_of_getElem? (i := 160) rfl)) (by decide +kernel)
set_option maxRecDepth 1000000 in
theorem gw_880 : GoodIn lw_tbl [(.selects RX12 yX12_peopleAt yX12_peopleAt : Cond)] := gi_one (mb_0 _ (List.mem_of_getElem? (i := 161) rfl)) (by decide +kernel)
set_option maxRecDepth 1000000 in
theorem gw_887 : GoodIn lw_tbl [(.selects RX12 yX12_heldSum yX12_heldSum : Cond)] := gi_one (mb_0 _ (List.mem_of_getElem? (i := 162) rfl)) (by decide +kernel)
set_option maxRecDepth 1000000 in
theorem gw_873 : GoodIn lw_tbl [(.selects RX12 yX12_isSheltered yX12_isSheltered : Cond)] := gi_one (mb_0 _ (List.mem_of_getElem? (i := 163) rfl)) (by decide +kernel)
set_option maxRecDepth 1000000 in
theorem gw_934 : GoodIn lw_tbl [(.selects RX12 yX12_allPass yX12_allPass : Cond)] := gi_one (mb_0 _ (List.mem_of_getElem? (i := 164) rfl)) (by decide +kernel)
set_option maxRecDepth 1000000 in
theorem gw_977 : GoodIn lw_tbl [(.selects RX12 yX12_keeps yX12_keeps : Cond)] := gi_one (mb_0 _ (List.mem_of_getElem? (i := 165) rfl)) (by decide +kernel)
set_option maxRecDepth 1000000 in
theorem gw_973 : GoodIn lw_tbl [(.selects RX12 yX12_deepBehind yX12_deepBehind : Cond)] := gi_one (mb_0 _ (List.mem_of_getElem? (i := 166) rfl)) (by decide +kernel)
set_option maxRecDepth 1000000 in
theorem gw_968 : GoodIn lw_tbl [(.selects RX12 yX12_comesBack yX12_comesBack : Cond)] := gi_one (mb_0 _ (List.mem_of_getElem? (i := 167) rfl)) (by decide +kernel)
set_option maxRecDepth 1000000 in
theorem gw_1034 : GoodIn lw_tbl [(.selects RX12 yX12_kindsOf yX12_kindsOf : Cond)] := gi_one (mb_0 _ (List.mem_of_getElem? (i := 168) rfl)) (by decide +kernel)
set_option maxRecDepth 1000000 in
theorem gw_1092 : GoodIn lw_tbl [(.selects RX12 yX12_mayStep yX12_mayStep : Cond)] := gi_one (mb_0 _ (List.mem_of_getElem? (i := 169) rfl)) (by decide +kernel)
set_option maxRecDepth 1000000 in
theorem gw_1194 : GoodIn lw_tbl [(.selects RX12 yX12_doing yX12_doing : Cond)] := gi_one (mb_0 _ (List.mem_of_getElem? (i := 170) rfl)) (by decide +kernel)
set_option maxRecDepth 1000000 in
theorem gw_1197 : GoodIn lw_tbl [(.selects RX12 yX12_daysOf yX12_daysOf : Cond)] := gi_one (mb_0 _ (List.mem_of_getElem? (i := 171) rfl)) (by decide +kernel)
set_option maxRecDepth 1000000 in
theorem gw_1231 : GoodIn lw_tbl [(.selects RX12 yX12_sweeps yX12_sweeps : Cond)] := gi_one (mb_0 _ (List.mem_of_getElem? (i := 172) rfl)) (by decide +kernel)
set_option maxRecDepth 1000000 in
theorem gw_23 : GoodIn lw_tbl [(.initialized RL : Cond)] := gi_one (mb_1 _ (List.mem_of_getElem? (i := 0) rfl)) (by decide +kernel)
set_option maxRecDepth 1000000 in
theorem gw_0 : GoodIn lw_tbl [(.initialized RX11 : Cond)] := gi_one (mb_1 _ (List.mem_of_getElem? (i := 1) rfl)) (by decide +kernel)
set_option maxRecDepth 1000000 in
theorem gw_13 : GoodIn lw_tbl [(.initialized RX8 : Cond)] := gi_one (mb_1 _ (List.mem_of_getElem? (i := 2) rfl)) (by decide +kernel)
set_option maxRecDepth 1000000 in
theorem gw_80 : GoodIn lw_tbl [(.initialized RX6 : Cond)] := gi_one (mb_1 _ (List.mem_of_getElem? (i := 3) rfl)) (by decide +kernel)
set_option maxRecDepth 1000000 in
theorem gw_236 : GoodIn lw_tbl [(.initialized RX4 : Cond)] := gi_one (mb_1 _ (List.mem_of_getElem? (i := 4) rfl)) (by decide +kernel)
set_option maxRecDepth 1000000 in
theorem gw_929 : GoodIn lw_tbl [(.initialized RX9 : Cond)] := gi_one (mb_1 _ (List.mem_of_getElem? (i := 5) rfl)) (by decide +kernel)
set_option maxRecDepth 1000000 in
theorem gw_826 : GoodIn lw_tbl [(.initialized RX0 : Cond)] := gi_one (mb_1 _ (List.mem_of_getElem? (i := 6) rfl)) (by decide +kernel)
set_option maxRecDepth 1000000 in
theorem gw_1167 : GoodIn lw_tbl [(.initialized RX3 : Cond)] := gi_one (mb_1 _ (List.mem_of_getElem? (i := 7) rfl)) (by decide +kernel)
set_option maxRecDepth 1000000 in
theorem gw_358 : GoodIn lw_tbl [(.initialized RX5 : Cond)] := gi_one (mb_1 _ (List.mem_of_getElem? (i := 8) rfl)) (by decide +kernel)
set_option maxRecDepth 1000000 in
theorem gw_452 : GoodIn lw_tbl [(.initialized RX1 : Cond)] := gi_one (mb_1 _ (List.mem_of_getElem? (i := 9) rfl)) (by decide +kernel)
set_option maxRecDepth 1000000 in
theorem gw_15 : GoodIn lw_tbl [(.initialized RX12 : Cond)] := gi_one (mb_1 _ (List.mem_of_getElem? (i := 10) rfl)) (by decide +kernel)
set_option maxRecDepth 1000000 in
theorem gw_223 : GoodIn lw_tbl [(.initialized "java/lang/IllegalArgumentException" : Cond)] := gi_one (mb_1 _ (List.mem_of_getElem? (i := 14) rfl)) (by decide +kernel)
set_option maxRecDepth 1000000 in
theorem gw_42 : GoodIn lw_tbl [(.initialized RX7 : Cond)] := gi_one (mb_1 _ (List.mem_of_getElem? (i := 15) rfl)) (by decide +kernel)
set_option maxRecDepth 1000000 in
theorem gw_32 : GoodIn lw_tbl [(.initialized RJ7 : Cond)] := gi_one (mb_1 _ (List.mem_of_getElem? (i := 16) rfl)) (by decide +kernel)
set_option maxRecDepth 1000000 in
theorem gw_172 : GoodIn lw_tbl [(.initialized RX10 : Cond)] := gi_one (mb_1 _ (List.mem_of_getElem? (i := 18) rfl)) (by decide +kernel)
set_option maxRecDepth 1000000 in
theorem gw_133 : GoodIn lw_tbl [(.initialized RJ0 : Cond)] := gi_one (mb_1 _ (List.mem_of_getElem? (i := 19) rfl)) (by decide +kernel)
set_option maxRecDepth 1000000 in
theorem gw_137 : GoodIn lw_tbl [(.initialized RJ1 : Cond)] := gi_one (mb_1 _ (List.mem_of_getElem? (i := 20) rfl)) (by decide +kernel)
set_option maxRecDepth 1000000 in
theorem gw_142 : GoodIn lw_tbl [(.initialized RJ3 : Cond)] := gi_one (mb_1 _ (List.mem_of_getElem? (i := 21) rfl)) (by decide +kernel)
set_option maxRecDepth 1000000 in
theorem gw_73 : GoodIn lw_tbl [(.initialized "java/lang/Math" : Cond)] := gi_one (mb_1 _ (List.mem_of_getElem? (i := 23) rfl)) (by decide +kernel)
set_option maxRecDepth 1000000 in
theorem gw_393 : GoodIn lw_tbl [(.initialized RX2 : Cond)] := gi_one (mb_1 _ (List.mem_of_getElem? (i := 24) rfl)) (by decide +kernel)
set_option maxRecDepth 1000000 in
theorem gw_559 : GoodIn lw_tbl [(.initialized "java/lang/IndexOutOfBoundsException" : Cond)] := gi_one (mb_1 _ (List.mem_of_getElem? (i := 25) rfl)) (by decide +kernel)
set_option maxRecDepth 1000000 in
theorem gw_592 : GoodIn lw_tbl [(.initialized "java/util/NoSuchElementException" : Cond)] := gi_one (mb_1 _ (List.mem_of_getElem? (i := 26) rfl)) (by decide +kernel)
set_option maxRecDepth 1000000 in
theorem gw_706 : GoodIn lw_tbl [(.initialized "java/lang/IllegalStateException" : Cond)] := gi_one (mb_1 _ (List.mem_of_getElem? (i := 27) rfl)) (by decide +kernel)
set_option maxRecDepth 1000000 in
theorem gw_953 : GoodIn lw_tbl [(.initialized "java/lang/System" : Cond)] := gi_one (mb_1 _ (List.mem_of_getElem? (i := 28) rfl)) (by decide +kernel)
set_option maxRecDepth 1000000 in
theorem gw_213 : GoodIn lw_tbl [(.instanceMethod objectInit : Cond)] := gi_one (mb_1 _ (List.mem_of_getElem? (i := 35) rfl)) (by decide +kernel)
set_option maxRecDepth 1000000 in
theorem gw_212 : GoodIn lw_tbl [(.code objectInit ⟨#[0xb1]⟩ 1 none : Cond)] := gi_one (mb_1 _ (List.mem_of_getElem? (i := 36) rfl)) (by decide +kernel)
set_option maxRecDepth 1000000 in
theorem gw_5 : GoodIn lw_tbl [(.fieldLink RX8 11 "KerbSplash$Tape" "bytes" "[B" : Cond)] := gi_one (mb_1 _ (List.mem_of_getElem? (i := 43) rfl)) (by decide +kernel)
set_option maxRecDepth 1000000 in
theorem gw_6 : GoodIn lw_tbl [(.fieldLink RX8 19 "KerbSplash$Tape" "fed" "I" : Cond)] := gi_one (mb_1 _ (List.mem_of_getElem? (i := 44) rfl)) (by decide +kernel)
set_option maxRecDepth 1000000 in
theorem gw_56 : GoodIn lw_tbl [(.fieldLink RX8 22 "KerbSplash$Tape" "length" "I" : Cond)] := gi_one (mb_1 _ (List.mem_of_getElem? (i := 46) rfl)) (by decide +kernel)
set_option maxRecDepth 1000000 in
theorem gw_51 : GoodIn lw_tbl [(.fieldLink RX8 25 "KerbSplash$Tape" "at" "I" : Cond)] := gi_one (mb_1 _ (List.mem_of_getElem? (i := 47) rfl)) (by decide +kernel)
set_option maxRecDepth 1000000 in
theorem gw_173 : GoodIn lw_tbl [(.fieldLink RX8 28 "KerbSplash$Tape" "wordEnd" "I" : Cond)] := gi_one (mb_1 _ (List.mem_of_getElem? (i := 48) rfl)) (by decide +kernel)
set_option maxRecDepth 1000000 in
theorem gw_41 : GoodIn lw_tbl [(.fieldLink RX8 31 "KerbSplash$Tape" "fault" "I" : Cond)] := gi_one (mb_1 _ (List.mem_of_getElem? (i := 50) rfl)) (by decide +kernel)
set_option maxRecDepth 1000000 in
theorem gw_50 : GoodIn lw_tbl [(.fieldLink RX8 15 "KerbSplash$Tape" "faultAt" "I" : Cond)] := gi_one (mb_1 _ (List.mem_of_getElem? (i := 51) rfl)) (by decide +kernel)
set_option maxRecDepth 1000000 in
theorem gw_31 : GoodIn lw_tbl [(.fieldLink RX6 28 "KerbSplash$Street" "wide" "I" : Cond)] := gi_one (mb_1 _ (List.mem_of_getElem? (i := 79) rfl)) (by decide +kernel)
set_option maxRecDepth 1000000 in
theorem gw_30 : GoodIn lw_tbl [(.fieldLink RX6 32 "KerbSplash$Street" "rows" "I" : Cond)] := gi_one (mb_1 _ (List.mem_of_getElem? (i := 84) rfl)) (by decide +kernel)
set_option maxRecDepth 1000000 in
theorem gw_205 : GoodIn lw_tbl [(.fieldLink RX6 9 "KerbSplash$Street" "height" "[I" : Cond)] := gi_one (mb_1 _ (List.mem_of_getElem? (i := 89) rfl)) (by decide +kernel)
set_option maxRecDepth 1000000 in
theorem gw_204 : GoodIn lw_tbl [(.fieldLink RX6 13 "KerbSplash$Street" "water" "[I" : Cond)] := gi_one (mb_1 _ (List.mem_of_getElem? (i := 92) rfl)) (by decide +kernel)
set_option maxRecDepth 1000000 in
theorem gw_119 : GoodIn lw_tbl [(.fieldLink RX6 41 "KerbSplash$Street" "drains" "I" : Cond)] := gi_one (mb_1 _ (List.mem_of_getElem? (i := 96) rfl)) (by decide +kernel)
set_option maxRecDepth 1000000 in
theorem gw_203 : GoodIn lw_tbl [(.fieldLink RX6 44 "KerbSplash$Street" "drainsTold" "I" : Cond)] := gi_one (mb_1 _ (List.mem_of_getElem? (i := 100) rfl)) (by decide +kernel)
set_option maxRecDepth 1000000 in
theorem gw_118 : GoodIn lw_tbl [(.fieldLink RX6 16 "KerbSplash$Street" "drain" "[I" : Cond)] := gi_one (mb_1 _ (List.mem_of_getElem? (i := 105) rfl)) (by decide +kernel)
set_option maxRecDepth 1000000 in
theorem gw_100 : GoodIn lw_tbl [(.fieldLink RX6 47 "KerbSplash$Street" "persons" "I" : Cond)] := gi_one (mb_1 _ (List.mem_of_getElem? (i := 109) rfl)) (by decide +kernel)
set_option maxRecDepth 1000000 in
theorem gw_98 : GoodIn lw_tbl [(.fieldLink RX6 19 "KerbSplash$Street" "person" "[I" : Cond)] := gi_one (mb_1 _ (List.mem_of_getElem? (i := 114) rfl)) (by decide +kernel)
set_option maxRecDepth 1000000 in
theorem gw_202 : GoodIn lw_tbl [(.fieldLink RX6 50 "KerbSplash$Street" "guesses" "I" : Cond)] := gi_one (mb_1 _ (List.mem_of_getElem? (i := 118) rfl)) (by decide +kernel)
set_option maxRecDepth 1000000 in
theorem gw_109 : GoodIn lw_tbl [(.fieldLink RX6 53 "KerbSplash$Street" "shelters" "I" : Cond)] := gi_one (mb_1 _ (List.mem_of_getElem? (i := 120) rfl)) (by decide +kernel)
set_option maxRecDepth 1000000 in
theorem gw_108 : GoodIn lw_tbl [(.fieldLink RX6 22 "KerbSplash$Street" "shelter" "[I" : Cond)] := gi_one (mb_1 _ (List.mem_of_getElem? (i := 123) rfl)) (by decide +kernel)
set_option maxRecDepth 1000000 in
theorem gw_66 : GoodIn lw_tbl [(.fieldLink RX6 56 "KerbSplash$Street" "works" "I" : Cond)] := gi_one (mb_1 _ (List.mem_of_getElem? (i := 124) rfl)) (by decide +kernel)
set_option maxRecDepth 1000000 in
theorem gw_65 : GoodIn lw_tbl [(.fieldLink RX6 25 "KerbSplash$Street" "work" "[I" : Cond)] := gi_one (mb_1 _ (List.mem_of_getElem? (i := 128) rfl)) (by decide +kernel)
set_option maxRecDepth 1000000 in
theorem gw_201 : GoodIn lw_tbl [(.fieldLink RX6 59 "KerbSplash$Street" "done" "I" : Cond)] := gi_one (mb_1 _ (List.mem_of_getElem? (i := 130) rfl)) (by decide +kernel)
set_option maxRecDepth 1000000 in
theorem gw_200 : GoodIn lw_tbl [(.fieldLink RX6 62 "KerbSplash$Street" "minutes" "I" : Cond)] := gi_one (mb_1 _ (List.mem_of_getElem? (i := 132) rfl)) (by decide +kernel)
set_option maxRecDepth 1000000 in
theorem gw_199 : GoodIn lw_tbl [(.fieldLink RX6 65 "KerbSplash$Street" "fallen" "I" : Cond)] := gi_one (mb_1 _ (List.mem_of_getElem? (i := 134) rfl)) (by decide +kernel)
set_option maxRecDepth 1000000 in
theorem gw_198 : GoodIn lw_tbl [(.fieldLink RX6 68 "KerbSplash$Street" "taken" "I" : Cond)] := gi_one (mb_1 _ (List.mem_of_getElem? (i := 136) rfl)) (by decide +kernel)
set_option maxRecDepth 1000000 in
theorem gw_197 : GoodIn lw_tbl [(.fieldLink RX6 71 "KerbSplash$Street" "gone" "I" : Cond)] := gi_one (mb_1 _ (List.mem_of_getElem? (i := 138) rfl)) (by decide +kernel)
set_option maxRecDepth 1000000 in
theorem gw_39 : GoodIn lw_tbl [(.fieldLink RX4 21 "KerbSplash$Plan" "cars" "I" : Cond)] := gi_one (mb_1 _ (List.mem_of_getElem? (i := 186) rfl)) (by decide +kernel)
set_option maxRecDepth 1000000 in
theorem gw_910 : GoodIn lw_tbl [(.fieldLink RX4 11 "KerbSplash$Plan" "traffic" "[I" : Cond)] := gi_one (mb_1 _ (List.mem_of_getElem? (i := 189) rfl)) (by decide +kernel)
set_option maxRecDepth 1000000 in
theorem gw_38 : GoodIn lw_tbl [(.fieldLink RX4 25 "KerbSplash$Plan" "dips" "I" : Cond)] := gi_one (mb_1 _ (List.mem_of_getElem? (i := 192) rfl)) (by decide +kernel)
set_option maxRecDepth 1000000 in
theorem gw_1153 : GoodIn lw_tbl [(.fieldLink RX4 15 "KerbSplash$Plan" "dip" "[I" : Cond)] := gi_one (mb_1 _ (List.mem_of_getElem? (i := 194) rfl)) (by decide +kernel)
set_option maxRecDepth 1000000 in
theorem gw_37 : GoodIn lw_tbl [(.fieldLink RX4 18 "KerbSplash$Plan" "shares" "[I" : Cond)] := gi_one (mb_1 _ (List.mem_of_getElem? (i := 196) rfl)) (by decide +kernel)
set_option maxRecDepth 1000000 in
theorem gw_835 : GoodIn lw_tbl [(.fieldLink RX0 9 "KerbSplash$Car" "names" "[I" : Cond)] := gi_one (mb_1 _ (List.mem_of_getElem? (i := 226) rfl)) (by decide +kernel)
set_option maxRecDepth 1000000 in
theorem gw_847 : GoodIn lw_tbl [(.fieldLink RX0 15 "KerbSplash$Car" "row" "I" : Cond)] := gi_one (mb_1 _ (List.mem_of_getElem? (i := 228) rfl)) (by decide +kernel)
set_option maxRecDepth 1000000 in
theorem gw_849 : GoodIn lw_tbl [(.fieldLink RX0 19 "KerbSplash$Car" "pace" "I" : Cond)] := gi_one (mb_1 _ (List.mem_of_getElem? (i := 229) rfl)) (by decide +kernel)
set_option maxRecDepth 1000000 in
theorem gw_852 : GoodIn lw_tbl [(.fieldLink RX0 22 "KerbSplash$Car" "tyre" "I" : Cond)] := gi_one (mb_1 _ (List.mem_of_getElem? (i := 230) rfl)) (by decide +kernel)
set_option maxRecDepth 1000000 in
theorem gw_848 : GoodIn lw_tbl [(.fieldLink RX0 25 "KerbSplash$Car" "kind" "I" : Cond)] := gi_one (mb_1 _ (List.mem_of_getElem? (i := 231) rfl)) (by decide +kernel)
set_option maxRecDepth 1000000 in
theorem gw_834 : GoodIn lw_tbl [(.fieldLink RX0 47 "KerbSplash$Car" "rowThere" "I" : Cond)] := gi_one (mb_1 _ (List.mem_of_getElem? (i := 233) rfl)) (by decide +kernel)
set_option maxRecDepth 1000000 in
theorem gw_846 : GoodIn lw_tbl [(.fieldLink RX0 69 "KerbSplash$Car" "paceThere" "I" : Cond)] := gi_one (mb_1 _ (List.mem_of_getElem? (i := 235) rfl)) (by decide +kernel)
set_option maxRecDepth 1000000 in
theorem gw_960 : GoodIn lw_tbl [(.fieldLink RX9 12 "KerbSplash$WhatIf" "trial" "LKerbSplash$Street;" : Cond)] := gi_one (mb_2 _ (List.mem_of_getElem? (i := 12) rfl)) (by decide +kernel)
set_option maxRecDepth 1000000 in
theorem gw_925 : GoodIn lw_tbl [(.fieldLink RX9 21 "KerbSplash$WhatIf" "car" "LKerbSplash$Car;" : Cond)] := gi_one (mb_2 _ (List.mem_of_getElem? (i := 13) rfl)) (by decide +kernel)
set_option maxRecDepth 1000000 in
theorem gw_1024 : GoodIn lw_tbl [(.fieldLink RX9 25 "KerbSplash$WhatIf" "seen" "[I" : Cond)] := gi_one (mb_2 _ (List.mem_of_getElem? (i := 15) rfl)) (by decide +kernel)
set_option maxRecDepth 1000000 in
theorem gw_1002 : GoodIn lw_tbl [(.fieldLink RX9 29 "KerbSplash$WhatIf" "found" "I" : Cond)] := gi_one (mb_2 _ (List.mem_of_getElem? (i := 16) rfl)) (by decide +kernel)
set_option maxRecDepth 1000000 in
theorem gw_1003 : GoodIn lw_tbl [(.fieldLink RX9 33 "KerbSplash$WhatIf" "worth" "I" : Cond)] := gi_one (mb_2 _ (List.mem_of_getElem? (i := 17) rfl)) (by decide +kernel)
set_option maxRecDepth 1000000 in
theorem gw_1185 : GoodIn lw_tbl [(.fieldLink RX3 30 "KerbSplash$Orders" "late" "I" : Cond)] := gi_one (mb_2 _ (List.mem_of_getElem? (i := 35) rfl)) (by decide +kernel)
set_option maxRecDepth 1000000 in
theorem gw_1184 : GoodIn lw_tbl [(.fieldLink RX3 33 "KerbSplash$Orders" "least" "I" : Cond)] := gi_one (mb_2 _ (List.mem_of_getElem? (i := 37) rfl)) (by decide +kernel)
set_option maxRecDepth 1000000 in
theorem gw_1183 : GoodIn lw_tbl [(.fieldLink RX3 36 "KerbSplash$Orders" "order" "I" : Cond)] := gi_one (mb_2 _ (List.mem_of_getElem? (i := 39) rfl)) (by decide +kernel)
set_option maxRecDepth 1000000 in
theorem gw_1173 : GoodIn lw_tbl [(.fieldLink RX3 11 "KerbSplash$Orders" "best" "[I" : Cond)] := gi_one (mb_2 _ (List.mem_of_getElem? (i := 41) rfl)) (by decide +kernel)
set_option maxRecDepth 1000000 in
theorem gw_366 : GoodIn lw_tbl [(.fieldLink RX5 9 "KerbSplash$Rain" "falls" "[I" : Cond)] := gi_one (mb_2 _ (List.mem_of_getElem? (i := 56) rfl)) (by decide +kernel)
set_option maxRecDepth 1000000 in
theorem gw_367 : GoodIn lw_tbl [(.fieldLink RX5 13 "KerbSplash$Rain" "minutes" "I" : Cond)] := gi_one (mb_2 _ (List.mem_of_getElem? (i := 59) rfl)) (by decide +kernel)
set_option maxRecDepth 1000000 in
theorem gw_398 : GoodIn lw_tbl [(.fieldLink RX1 11 "KerbSplash$Law" "steps" "[I" : Cond)] := gi_one (mb_2 _ (List.mem_of_getElem? (i := 72) rfl)) (by decide +kernel)
set_option maxRecDepth 1000000 in
theorem gw_399 : GoodIn lw_tbl [(.fieldLink RX1 23 "KerbSplash$Law" "size" "I" : Cond)] := gi_one (mb_2 _ (List.mem_of_getElem? (i := 73) rfl)) (by decide +kernel)
set_option maxRecDepth 1000000 in
theorem gw_457 : GoodIn lw_tbl [(.fieldLink RX1 17 "KerbSplash$Law" "starts" "[I" : Cond)] := gi_one (mb_2 _ (List.mem_of_getElem? (i := 75) rfl)) (by decide +kernel)
set_option maxRecDepth 1000000 in
theorem gw_793 : GoodIn lw_tbl [(.fieldLink RX1 20 "KerbSplash$Law" "values" "[I" : Cond)] := gi_one (mb_2 _ (List.mem_of_getElem? (i := 77) rfl)) (by decide +kernel)
set_option maxRecDepth 1000000 in
theorem gw_14 : GoodIn lw_tbl [(.fieldLink RX11 10 "KerbSplash" "tape" "LKerbSplash$Tape;" : Cond)] := gi_one (mb_2 _ (List.mem_of_getElem? (i := 87) rfl)) (by decide +kernel)
set_option maxRecDepth 1000000 in
theorem gw_377 : GoodIn lw_tbl [(.fieldLink RX11 18 "KerbSplash" "rains" "[LKerbSplash$Rain;" : Cond)] := gi_one (mb_2 _ (List.mem_of_getElem? (i := 88) rfl)) (by decide +kernel)
set_option maxRecDepth 1000000 in
theorem gw_467 : GoodIn lw_tbl [(.fieldLink RX11 24 "KerbSplash" "laws" "[LKerbSplash$Law;" : Cond)] := gi_one (mb_2 _ (List.mem_of_getElem? (i := 89) rfl)) (by decide +kernel)
set_option maxRecDepth 1000000 in
theorem gw_378 : GoodIn lw_tbl [(.fieldLink RX11 112 "KerbSplash" "rainsTold" "I" : Cond)] := gi_one (mb_2 _ (List.mem_of_getElem? (i := 90) rfl)) (by decide +kernel)
set_option maxRecDepth 1000000 in
theorem gw_470 : GoodIn lw_tbl [(.fieldLink RX11 118 "KerbSplash" "lawsTold" "I" : Cond)] := gi_one (mb_2 _ (List.mem_of_getElem? (i := 91) rfl)) (by decide +kernel)
set_option maxRecDepth 1000000 in
theorem gw_238 : GoodIn lw_tbl [(.fieldLink RX11 31 "KerbSplash" "now" "LKerbSplash$Street;" : Cond)] := gi_one (mb_2 _ (List.mem_of_getElem? (i := 92) rfl)) (by decide +kernel)
set_option maxRecDepth 1000000 in
theorem gw_242 : GoodIn lw_tbl [(.fieldLink RX11 35 "KerbSplash" "draft" "LKerbSplash$Street;" : Cond)] := gi_one (mb_2 _ (List.mem_of_getElem? (i := 93) rfl)) (by decide +kernel)
set_option maxRecDepth 1000000 in
theorem gw_237 : GoodIn lw_tbl [(.fieldLink RX11 41 "KerbSplash" "plan" "LKerbSplash$Plan;" : Cond)] := gi_one (mb_2 _ (List.mem_of_getElem? (i := 94) rfl)) (by decide +kernel)
set_option maxRecDepth 1000000 in
theorem gw_1271 : GoodIn lw_tbl [(.fieldLink RX11 45 "KerbSplash" "streetImages" "[LKerbSplash$Street;" : Cond)] := gi_one (mb_2 _ (List.mem_of_getElem? (i := 95) rfl)) (by decide +kernel)
set_option maxRecDepth 1000000 in
theorem gw_1270 : GoodIn lw_tbl [(.fieldLink RX11 49 "KerbSplash" "planImages" "[LKerbSplash$Plan;" : Cond)] := gi_one (mb_2 _ (List.mem_of_getElem? (i := 96) rfl)) (by decide +kernel)
set_option maxRecDepth 1000000 in
theorem gw_233 : GoodIn lw_tbl [(.fieldLink RX11 105 "KerbSplash" "images" "I" : Cond)] := gi_one (mb_2 _ (List.mem_of_getElem? (i := 97) rfl)) (by decide +kernel)
set_option maxRecDepth 1000000 in
theorem gw_801 : GoodIn lw_tbl [(.fieldLink RX11 56 "KerbSplash" "whatIf" "LKerbSplash$WhatIf;" : Cond)] := gi_one (mb_2 _ (List.mem_of_getElem? (i := 98) rfl)) (by decide +kernel)
set_option maxRecDepth 1000000 in
theorem gw_1189 : GoodIn lw_tbl [(.fieldLink RX11 63 "KerbSplash" "orders" "LKerbSplash$Orders;" : Cond)] := gi_one (mb_2 _ (List.mem_of_getElem? (i := 99) rfl)) (by decide +kernel)
set_option maxRecDepth 1000000 in
theorem gw_225 : GoodIn lw_tbl [(.fieldLink RX11 67 "KerbSplash" "refused" "[I" : Cond)] := gi_one (mb_2 _ (List.mem_of_getElem? (i := 100) rfl)) (by decide +kernel)
set_option maxRecDepth 1000000 in
theorem gw_3 : GoodIn lw_tbl [(.methodLink RL 121 yX11_feed : Cond)] := gi_one (mb_2 _ (List.mem_of_getElem? (i := 130) rfl)) (by decide +kernel)
set_option maxRecDepth 1000000 in
theorem gw_2 : GoodIn lw_tbl [(.instanceMethod yX11_feed : Cond)] := gi_one (mb_2 _ (List.mem_of_getElem? (i := 131) rfl)) (by decide +kernel)
set_option maxRecDepth 1000000 in
theorem gw_1 : GoodIn lw_tbl [(.selects RX11 yX11_feed yX11_feed : Cond)] := gi_one (mb_2 _ (List.mem_of_getElem? (i := 132) rfl)) (by decide +kernel)
set_option maxRecDepth 1000000 in
theorem gw_8 : GoodIn lw_tbl [(.code yX11_feed cX11_feed 6 (some .int) : Cond)] := gi_one (mb_2 _ (List.mem_of_getElem? (i := 133) rfl)) (by decide +kernel)
set_option maxRecDepth 1000000 in
theorem gw_12 : GoodIn lw_tbl [(.instanceMethod yX8_hasRoom : Cond)] := gi_one (mb_2 _ (List.mem_of_getElem? (i := 136) rfl)) (by decide +kernel)
set_option maxRecDepth 1000000 in
theorem gw_7 : GoodIn lw_tbl [(.code yX8_hasRoom cX8_hasRoom 1 (some .boolean) : Cond)] := gi_one (mb_2 _ (List.mem_of_getElem? (i := 137) rfl)) (by decide +kernel)
set_option maxRecDepth 1000000 in
theorem gw_10 : GoodIn lw_tbl [(.instanceMethod yX8_add : Cond)] := gi_one (mb_2 _ (List.mem_of_getElem? (i := 140) rfl)) (by decide +kernel)
set_option maxRecDepth 1000000 in
theorem gw_4 : GoodIn lw_tbl [(.code yX8_add cX8_add 3 none : Cond)] := gi_one (mb_2 _ (List.mem_of_getElem? (i := 141) rfl)) (by decide +kernel)
set_option maxRecDepth 1000000 in
theorem gw_524 : GoodIn lw_tbl [(.methodLink RL 137 yX11_fault : Cond)] := gi_one (mb_2 _ (List.mem_of_getElem? (i := 142) rfl)) (by decide +kernel)
set_option maxRecDepth 1000000 in
theorem gw_523 : GoodIn lw_tbl [(.instanceMethod yX11_fault : Cond)] := gi_one (mb_2 _ (List.mem_of_getElem? (i := 143) rfl)) (by decide +kernel)
set_option maxRecDepth 1000000 in
theorem gw_522 : GoodIn lw_tbl [(.selects RX11 yX11_fault yX11_fault : Cond)] := gi_one (mb_2 _ (List.mem_of_getElem? (i := 144) rfl)) (by decide +kernel)
set_option maxRecDepth 1000000 in
theorem gw_525 : GoodIn lw_tbl [(.code yX11_fault cX11_fault 1 (some .int) : Cond)] := gi_one (mb_2 _ (List.mem_of_getElem? (i := 145) rfl)) (by decide +kernel)
set_option maxRecDepth 1000000 in
theorem gw_941 : GoodIn lw_tbl [(.methodLink RL 188 yX11_clear : Cond)] := gi_one (mb_2 _ (List.mem_of_getElem? (i := 146) rfl)) (by decide +kernel)
set_option maxRecDepth 1000000 in
theorem gw_940 : GoodIn lw_tbl [(.instanceMethod yX11_clear : Cond)] := gi_one (mb_2 _ (List.mem_of_getElem? (i := 147) rfl)) (by decide +kernel)
set_option maxRecDepth 1000000 in
theorem gw_939 : GoodIn lw_tbl [(.selects RX11 yX11_clear yX11_clear : Cond)] := gi_one (mb_2 _ (List.mem_of_getElem? (i := 148) rfl)) (by decide +kernel)
set_option maxRecDepth 1000000 in
theorem gw_942 : GoodIn lw_tbl [(.code yX11_clear cX11_clear 2 (some .int) : Cond)] := gi_one (mb_2 _ (List.mem_of_getElem? (i := 149) rfl)) (by decide +kernel)
set_option maxRecDepth 1000000 in
theorem gw_1264 : GoodIn lw_tbl [(.methodLink RL 236 yX11_image : Cond)] := gi_one (mb_2 _ (List.mem_of_getElem? (i := 150) rfl)) (by decide +kernel)
set_option maxRecDepth 1000000 in
theorem gw_1263 : GoodIn lw_tbl [(.instanceMethod yX11_image : Cond)] := gi_one (mb_2 _ (List.mem_of_getElem? (i := 151) rfl)) (by decide +kernel)
set_option maxRecDepth 1000000 in
theorem gw_1262 : GoodIn lw_tbl [(.selects RX11 yX11_image yX11_image : Cond)] := gi_one (mb_2 _ (List.mem_of_getElem? (i := 152) rfl)) (by decide +kernel)
set_option maxRecDepth 1000000 in
theorem gw_1267 : GoodIn lw_tbl [(.code yX11_image cX11_image 1 (some .int) : Cond)] := gi_one (mb_2 _ (List.mem_of_getElem? (i := 153) rfl)) (by decide +kernel)
set_option maxRecDepth 1000000 in
theorem gw_959 : GoodIn lw_tbl [(.instanceMethod yX6_become : Cond)] := gi_one (mb_2 _ (List.mem_of_getElem? (i := 156) rfl)) (by decide +kernel)
set_option maxRecDepth 1000000 in
theorem gw_952 : GoodIn lw_tbl [(.code yX6_become cX6_become 2 none : Cond)] := gi_one (mb_2 _ (List.mem_of_getElem? (i := 157) rfl)) (by decide +kernel)
set_option maxRecDepth 1000000 in
theorem gw_956 : GoodIn lw_tbl [(.methodLink RX6 74 arraycopyName : Cond)] := gi_one (mb_2 _ (List.mem_of_getElem? (i := 158) rfl)) (by decide +kernel)
set_option maxRecDepth 1000000 in
theorem gw_954 : GoodIn lw_tbl [(.static arraycopyName : Cond)] := gi_one (mb_2 _ (List.mem_of_getElem? (i := 159) rfl)) (by decide +kernel)
set_option maxRecDepth 1000000 in
theorem gw_955 : GoodIn lw_tbl [(.native arraycopyName : Cond)] := gi_one (mb_2 _ (List.mem_of_getElem? (i := 160) rfl)) (by decide +kernel)
set_option maxRecDepth 1000000 in
theorem gw_1269 : GoodIn lw_tbl [(.instanceMethod yX4_become : Cond)] := gi_one (mb_2 _ (List.mem_of_getElem? (i := 163) rfl)) (by decide +kernel)
set_option maxRecDepth 1000000 in
theorem gw_1265 : GoodIn lw_tbl [(.code yX4_become cX4_become 2 none : Cond)] := gi_one (mb_2 _ (List.mem_of_getElem? (i := 164) rfl)) (by decide +kernel)
set_option maxRecDepth 1000000 in
theorem gw_1266 : GoodIn lw_tbl [(.methodLink RX4 34 arraycopyName : Cond)] := gi_one (mb_2 _ (List.mem_of_getElem? (i := 165) rfl)) (by decide +kernel)
set_option maxRecDepth 1000000 in
theorem gw_1279 : GoodIn lw_tbl [(.methodLink RL 240 yX11_restore : Cond)] := gi_one (mb_2 _ (List.mem_of_getElem? (i := 166) rfl)) (by decide +kernel)
set_option maxRecDepth 1000000 in
theorem gw_1278 : GoodIn lw_tbl [(.instanceMethod yX11_restore : Cond)] := gi_one (mb_2 _ (List.mem_of_getElem? (i := 167) rfl)) (by decide +kernel)
set_option maxRecDepth 1000000 in
theorem gw_1277 : GoodIn lw_tbl [(.selects RX11 yX11_restore yX11_restore : Cond)] := gi_one (mb_2 _ (List.mem_of_getElem? (i := 168) rfl)) (by decide +kernel)
set_option maxRecDepth 1000000 in
theorem gw_1280 : GoodIn lw_tbl [(.code yX11_restore cX11_restore 1 (some .int) : Cond)] := gi_one (mb_2 _ (List.mem_of_getElem? (i := 169) rfl)) (by decide +kernel)
set_option maxRecDepth 1000000 in
theorem gw_1287 : GoodIn lw_tbl [(.methodLink RL 244 yX11_status : Cond)] := gi_one (mb_2 _ (List.mem_of_getElem? (i := 170) rfl)) (by decide +kernel)
set_option maxRecDepth 1000000 in
theorem gw_1286 : GoodIn lw_tbl [(.instanceMethod yX11_status : Cond)] := gi_one (mb_2 _ (List.mem_of_getElem? (i := 171) rfl)) (by decide +kernel)
set_option maxRecDepth 1000000 in
theorem gw_1285 : GoodIn lw_tbl [(.selects RX11 yX11_status yX11_status : Cond)] := gi_one (mb_2 _ (List.mem_of_getElem? (i := 172) rfl)) (by decide +kernel)
set_option maxRecDepth 1000000 in
theorem gw_1288 : GoodIn lw_tbl [(.code yX11_status cX11_status 2 (some .int) : Cond)] := gi_one (mb_2 _ (List.mem_of_getElem? (i := 173) rfl)) (by decide +kernel)
set_option maxRecDepth 1000000 in
theorem gw_226 : GoodIn lw_tbl [(.methodLink RX11 130 yX11_isWithin : Cond)] := gi_one (mb_2 _ (List.mem_of_getElem? (i := 174) rfl)) (by decide +kernel)
set_option maxRecDepth 1000000 in
theorem gw_76 : GoodIn lw_tbl [(.static yX11_isWithin : Cond)] := gi_one (mb_2 _ (List.mem_of_getElem? (i := 175) rfl)) (by decide +kernel)
set_option maxRecDepth 1000000 in
theorem gw_67 : GoodIn lw_tbl [(.code yX11_isWithin cX11_isWithin 3 (some .boolean) : Cond)] := gi_one (mb_2 _ (List.mem_of_getElem? (i := 176) rfl)) (by decide +kernel)
set_option maxRecDepth 1000000 in
theorem gw_1295 : GoodIn lw_tbl [(.methodLink RL 248 yX11_count : Cond)] := gi_one (mb_2 _ (List.mem_of_getElem? (i := 177) rfl)) (by decide +kernel)
set_option maxRecDepth 1000000 in
theorem gw_1294 : GoodIn lw_tbl [(.instanceMethod yX11_count : Cond)] := gi_one (mb_2 _ (List.mem_of_getElem? (i := 178) rfl)) (by decide +kernel)
set_option maxRecDepth 1000000 in
theorem gw_1293 : GoodIn lw_tbl [(.selects RX11 yX11_count yX11_count : Cond)] := gi_one (mb_2 _ (List.mem_of_getElem? (i := 179) rfl)) (by decide +kernel)
set_option maxRecDepth 1000000 in
theorem gw_1296 : GoodIn lw_tbl [(.code yX11_count cX11_count 2 (some .int) : Cond)] := gi_one (mb_2 _ (List.mem_of_getElem? (i := 180) rfl)) (by decide +kernel)
set_option maxRecDepth 1000000 in
theorem gw_25 : GoodIn lw_tbl [(.methodLink RL 125 yL_street : Cond)] := gi_one (mb_2 _ (List.mem_of_getElem? (i := 181) rfl)) (by decide +kernel)
set_option maxRecDepth 1000000 in
theorem gw_24 : GoodIn lw_tbl [(.static yL_street : Cond)] := gi_one (mb_2 _ (List.mem_of_getElem? (i := 182) rfl)) (by decide +kernel)
set_option maxRecDepth 1000000 in
theorem gw_245 : GoodIn lw_tbl [(.codeWith yL_street cL_street 4 (some .int) [(0, 9, 12, 13)] : Cond)] := gi_one (mb_2 _ (List.mem_of_getElem? (i := 183) rfl)) (by decide +kernel)
set_option maxRecDepth 1000000 in
theorem gw_246 : GoodIn lw_tbl [(.classLink RL 13 "java/lang/IllegalArgumentException" : Cond)] := gi_one (mb_2 _ (List.mem_of_getElem? (i := 184) rfl)) (by decide +kernel)
set_option maxRecDepth 1000000 in
theorem gw_28 : GoodIn lw_tbl [(.methodLink RL 7 yX11_street : Cond)] := gi_one (mb_2 _ (List.mem_of_getElem? (i := 185) rfl)) (by decide +kernel)
set_option maxRecDepth 1000000 in
theorem gw_27 : GoodIn lw_tbl [(.instanceMethod yX11_street : Cond)] := gi_one (mb_2 _ (List.mem_of_getElem? (i := 186) rfl)) (by decide +kernel)
set_option maxRecDepth 1000000 in
theorem gw_26 : GoodIn lw_tbl [(.selects RX11 yX11_street yX11_street : Cond)] := gi_one (mb_2 _ (List.mem_of_getElem? (i := 187) rfl)) (by decide +kernel)
set_option maxRecDepth 1000000 in
theorem gw_230 : GoodIn lw_tbl [(.code yX11_street cX11_street 3 (some .int) : Cond)] := gi_one (mb_2 _ (List.mem_of_getElem? (i := 188) rfl)) (by decide +kernel)
set_option maxRecDepth 1000000 in
theorem gw_217 : GoodIn lw_tbl [(.methodLink RX11 85 yX11_beginText : Cond)] := gi_one (mb_2 _ (List.mem_of_getElem? (i := 189) rfl)) (by decide +kernel)
set_option maxRecDepth 1000000 in
theorem gw_216 : GoodIn lw_tbl [(.instanceMethod yX11_beginText : Cond)] := gi_one (mb_2 _ (List.mem_of_getElem? (i := 191) rfl)) (by decide +kernel)
set_option maxRecDepth 1000000 in
theorem gw_227 : GoodIn lw_tbl [(.code yX11_beginText cX11_beginText 2 none : Cond)] := gi_one (mb_2 _ (List.mem_of_getElem? (i := 192) rfl)) (by decide +kernel)
set_option maxRecDepth 1000000 in
theorem gw_221 : GoodIn lw_tbl [(.methodLink RX11 134 yX11_needArgument : Cond)] := gi_one (mb_2 _ (List.mem_of_getElem? (i := 193) rfl)) (by decide +kernel)
set_option maxRecDepth 1000000 in
theorem gw_220 : GoodIn lw_tbl [(.instanceMethod yX11_needArgument : Cond)] := gi_one (mb_2 _ (List.mem_of_getElem? (i := 195) rfl)) (by decide +kernel)
set_option maxRecDepth 1000000 in
theorem gw_222 : GoodIn lw_tbl [(.code yX11_needArgument cX11_needArgument 2 none : Cond)] := gi_one (mb_2 _ (List.mem_of_getElem? (i := 196) rfl)) (by decide +kernel)
set_option maxRecDepth 1000000 in
theorem gw_224 : GoodIn lw_tbl [(.classLink RX11 364 "java/lang/IllegalArgumentException" : Cond)] := gi_one (mb_2 _ (List.mem_of_getElem? (i := 197) rfl)) (by decide +kernel)
set_option maxRecDepth 1000000 in
theorem gw_229 : GoodIn lw_tbl [(.instanceMethod yX8_begin : Cond)] := gi_one (mb_3 _ (List.mem_of_getElem? (i := 27) rfl)) (by decide +kernel)
set_option maxRecDepth 1000000 in
theorem gw_218 : GoodIn lw_tbl [(.code yX8_begin cX8_begin 2 none : Cond)] := gi_one (mb_3 _ (List.mem_of_getElem? (i := 28) rfl)) (by decide +kernel)
set_option maxRecDepth 1000000 in
theorem gw_244 : GoodIn lw_tbl [(.classLink RX11 88 RX7 : Cond)] := gi_one (mb_3 _ (List.mem_of_getElem? (i := 29) rfl)) (by decide +kernel)
set_option maxRecDepth 1000000 in
theorem gw_243 : GoodIn lw_tbl [(.instantiable RX7 2 : Cond)] := gi_one (mb_3 _ (List.mem_of_getElem? (i := 30) rfl)) (by decide +kernel)
set_option maxRecDepth 1000000 in
theorem gw_241 : GoodIn lw_tbl [(.instanceMethod yX7_init : Cond)] := gi_one (mb_3 _ (List.mem_of_getElem? (i := 32) rfl)) (by decide +kernel)
set_option maxRecDepth 1000000 in
theorem gw_211 : GoodIn lw_tbl [(.code yX7_init cX7_init 3 none : Cond)] := gi_one (mb_3 _ (List.mem_of_getElem? (i := 33) rfl)) (by decide +kernel)
set_option maxRecDepth 1000000 in
theorem gw_214 : GoodIn lw_tbl [(.methodLink RX7 3 objectInit : Cond)] := gi_one (mb_3 _ (List.mem_of_getElem? (i := 34) rfl)) (by decide +kernel)
set_option maxRecDepth 1000000 in
theorem gw_86 : GoodIn lw_tbl [(.fieldLink RX7 9 "KerbSplash$StreetReader" "tape" "LKerbSplash$Tape;" : Cond)] := gi_one (mb_3 _ (List.mem_of_getElem? (i := 35) rfl)) (by decide +kernel)
set_option maxRecDepth 1000000 in
theorem gw_85 : GoodIn lw_tbl [(.fieldLink RX7 15 "KerbSplash$StreetReader" "street" "LKerbSplash$Street;" : Cond)] := gi_one (mb_3 _ (List.mem_of_getElem? (i := 36) rfl)) (by decide +kernel)
set_option maxRecDepth 1000000 in
theorem gw_240 : GoodIn lw_tbl [(.instanceMethod yX7_read : Cond)] := gi_one (mb_3 _ (List.mem_of_getElem? (i := 44) rfl)) (by decide +kernel)
set_option maxRecDepth 1000000 in
theorem gw_206 : GoodIn lw_tbl [(.code yX7_read cX7_read 2 none : Cond)] := gi_one (mb_3 _ (List.mem_of_getElem? (i := 45) rfl)) (by decide +kernel)
set_option maxRecDepth 1000000 in
theorem gw_210 : GoodIn lw_tbl [(.instanceMethod yX6_reset : Cond)] := gi_one (mb_3 _ (List.mem_of_getElem? (i := 48) rfl)) (by decide +kernel)
set_option maxRecDepth 1000000 in
theorem gw_196 : GoodIn lw_tbl [(.code yX6_reset cX6_reset 1 none : Cond)] := gi_one (mb_3 _ (List.mem_of_getElem? (i := 49) rfl)) (by decide +kernel)
set_option maxRecDepth 1000000 in
theorem gw_195 : GoodIn lw_tbl [(.methodLink RX6 35 yJ7_fill_53178 : Cond)] := gi_one (mb_3 _ (List.mem_of_getElem? (i := 50) rfl)) (by decide +kernel)
set_option maxRecDepth 1000000 in
theorem gw_33 : GoodIn lw_tbl [(.static yJ7_fill_53178 : Cond)] := gi_one (mb_3 _ (List.mem_of_getElem? (i := 51) rfl)) (by decide +kernel)
set_option maxRecDepth 1000000 in
theorem gw_35 : GoodIn lw_tbl [(.code yJ7_fill_53178 cJ7_fill_53178 4 none : Cond)] := gi_one (mb_3 _ (List.mem_of_getElem? (i := 52) rfl)) (by decide +kernel)
set_option maxRecDepth 1000000 in
theorem gw_208 : GoodIn lw_tbl [(.instanceMethod yX8_hasMore : Cond)] := gi_one (mb_3 _ (List.mem_of_getElem? (i := 55) rfl)) (by decide +kernel)
set_option maxRecDepth 1000000 in
theorem gw_194 : GoodIn lw_tbl [(.code yX8_hasMore cX8_hasMore 1 (some .boolean) : Cond)] := gi_one (mb_3 _ (List.mem_of_getElem? (i := 56) rfl)) (by decide +kernel)
set_option maxRecDepth 1000000 in
theorem gw_54 : GoodIn lw_tbl [(.methodLink RX8 34 yX8_sign : Cond)] := gi_one (mb_3 _ (List.mem_of_getElem? (i := 57) rfl)) (by decide +kernel)
set_option maxRecDepth 1000000 in
theorem gw_53 : GoodIn lw_tbl [(.instanceMethod yX8_sign : Cond)] := gi_one (mb_3 _ (List.mem_of_getElem? (i := 59) rfl)) (by decide +kernel)
set_option maxRecDepth 1000000 in
theorem gw_55 : GoodIn lw_tbl [(.code yX8_sign cX8_sign 1 (some .int) : Cond)] := gi_one (mb_3 _ (List.mem_of_getElem? (i := 60) rfl)) (by decide +kernel)
set_option maxRecDepth 1000000 in
theorem gw_45 : GoodIn lw_tbl [(.methodLink RX7 30 yX7_readClause : Cond)] := gi_one (mb_3 _ (List.mem_of_getElem? (i := 61) rfl)) (by decide +kernel)
set_option maxRecDepth 1000000 in
theorem gw_44 : GoodIn lw_tbl [(.instanceMethod yX7_readClause : Cond)] := gi_one (mb_3 _ (List.mem_of_getElem? (i := 63) rfl)) (by decide +kernel)
set_option maxRecDepth 1000000 in
theorem gw_187 : GoodIn lw_tbl [(.code yX7_readClause cX7_readClause 3 none : Cond)] := gi_one (mb_3 _ (List.mem_of_getElem? (i := 64) rfl)) (by decide +kernel)
set_option maxRecDepth 1000000 in
theorem gw_131 : GoodIn lw_tbl [(.instanceMethod yX8_word : Cond)] := gi_one (mb_3 _ (List.mem_of_getElem? (i := 67) rfl)) (by decide +kernel)
set_option maxRecDepth 1000000 in
theorem gw_169 : GoodIn lw_tbl [(.code yX8_word cX8_word 1 (some (.object "KerbSplash$Word")) : Cond)] := gi_one (mb_3 _ (List.mem_of_getElem? (i := 68) rfl)) (by decide +kernel)
set_option maxRecDepth 1000000 in
theorem gw_170 : GoodIn lw_tbl [(.fieldLink RX8 42 "KerbSplash$Word" "NO" "LKerbSplash$Word;" : Cond)] := gi_one (mb_3 _ (List.mem_of_getElem? (i := 69) rfl)) (by decide +kernel)
set_option maxRecDepth 1000000 in
theorem gw_171 : GoodIn lw_tbl [(.static yX10_of : Cond)] := gi_one (mb_3 _ (List.mem_of_getElem? (i := 72) rfl)) (by decide +kernel)
set_option maxRecDepth 1000000 in
theorem gw_165 : GoodIn lw_tbl [(.code yX10_of cX10_of 6 (some (.object "KerbSplash$Word")) : Cond)] := gi_one (mb_3 _ (List.mem_of_getElem? (i := 73) rfl)) (by decide +kernel)
set_option maxRecDepth 1000000 in
theorem gw_168 : GoodIn lw_tbl [(.fieldLink RX10 123 "KerbSplash$Word" "ALL" "[LKerbSplash$Word;" : Cond)] := gi_one (mb_3 _ (List.mem_of_getElem? (i := 74) rfl)) (by decide +kernel)
set_option maxRecDepth 1000000 in
theorem gw_159 : GoodIn lw_tbl [(.methodLink RX10 126 yJ0_length_8abf5 : Cond)] := gi_one (mb_3 _ (List.mem_of_getElem? (i := 76) rfl)) (by decide +kernel)
set_option maxRecDepth 1000000 in
theorem gw_158 : GoodIn lw_tbl [(.instanceMethod yJ0_length_8abf5 : Cond)] := gi_one (mb_3 _ (List.mem_of_getElem? (i := 77) rfl)) (by decide +kernel)
set_option maxRecDepth 1000000 in
theorem gw_157 : GoodIn lw_tbl [(.selects RJ0 yJ0_length_8abf5 yJ0_length_8abf5 : Cond)] := gi_one (mb_3 _ (List.mem_of_getElem? (i := 78) rfl)) (by decide +kernel)
set_option maxRecDepth 1000000 in
theorem gw_164 : GoodIn lw_tbl [(.code yJ0_length_8abf5 cJ0_length_8abf5 1 (some .int) : Cond)] := gi_one (mb_3 _ (List.mem_of_getElem? (i := 79) rfl)) (by decide +kernel)
set_option maxRecDepth 1000000 in
theorem gw_162 : GoodIn lw_tbl [(.methodLink RJ0 335 yJ0_coder_7d493 : Cond)] := gi_one (mb_3 _ (List.mem_of_getElem? (i := 80) rfl)) (by decide +kernel)
set_option maxRecDepth 1000000 in
theorem gw_161 : GoodIn lw_tbl [(.instanceMethod yJ0_coder_7d493 : Cond)] := gi_one (mb_3 _ (List.mem_of_getElem? (i := 81) rfl)) (by decide +kernel)
set_option maxRecDepth 1000000 in
theorem gw_160 : GoodIn lw_tbl [(.selects RJ0 yJ0_coder_7d493 yJ0_coder_7d493 : Cond)] := gi_one (mb_3 _ (List.mem_of_getElem? (i := 82) rfl)) (by decide +kernel)
set_option maxRecDepth 1000000 in
theorem gw_163 : GoodIn lw_tbl [(.code yJ0_coder_7d493 cJ0_coder_7d493 1 (some .byte) : Cond)] := gi_one (mb_3 _ (List.mem_of_getElem? (i := 83) rfl)) (by decide +kernel)
set_option maxRecDepth 1000000 in
theorem gw_154 : GoodIn lw_tbl [(.fieldLink RJ0 38 "java/lang/String" "COMPACT_STRINGS" "Z" : Cond)] := gi_one (mb_3 _ (List.mem_of_getElem? (i := 84) rfl)) (by decide +kernel)
set_option maxRecDepth 1000000 in
theorem gw_136 : GoodIn lw_tbl [(.methodLink RX10 132 yJ0_charAt_5068e : Cond)] := gi_one (mb_3 _ (List.mem_of_getElem? (i := 86) rfl)) (by decide +kernel)
set_option maxRecDepth 1000000 in
theorem gw_135 : GoodIn lw_tbl [(.instanceMethod yJ0_charAt_5068e : Cond)] := gi_one (mb_3 _ (List.mem_of_getElem? (i := 87) rfl)) (by decide +kernel)
set_option maxRecDepth 1000000 in
theorem gw_134 : GoodIn lw_tbl [(.selects RJ0 yJ0_charAt_5068e yJ0_charAt_5068e : Cond)] := gi_one (mb_3 _ (List.mem_of_getElem? (i := 88) rfl)) (by decide +kernel)
set_option maxRecDepth 1000000 in
theorem gw_155 : GoodIn lw_tbl [(.code yJ0_charAt_5068e cJ0_charAt_5068e 2 (some .char) : Cond)] := gi_one (mb_3 _ (List.mem_of_getElem? (i := 89) rfl)) (by decide +kernel)
set_option maxRecDepth 1000000 in
theorem gw_151 : GoodIn lw_tbl [(.methodLink RJ0 492 yJ0_isLatin1_aae02 : Cond)] := gi_one (mb_3 _ (List.mem_of_getElem? (i := 90) rfl)) (by decide +kernel)
set_option maxRecDepth 1000000 in
theorem gw_150 : GoodIn lw_tbl [(.instanceMethod yJ0_isLatin1_aae02 : Cond)] := gi_one (mb_3 _ (List.mem_of_getElem? (i := 91) rfl)) (by decide +kernel)
set_option maxRecDepth 1000000 in
theorem gw_149 : GoodIn lw_tbl [(.selects RJ0 yJ0_isLatin1_aae02 yJ0_isLatin1_aae02 : Cond)] := gi_one (mb_3 _ (List.mem_of_getElem? (i := 92) rfl)) (by decide +kernel)
set_option maxRecDepth 1000000 in
theorem gw_152 : GoodIn lw_tbl [(.code yJ0_isLatin1_aae02 cJ0_isLatin1_aae02 1 (some .boolean) : Cond)] := gi_one (mb_3 _ (List.mem_of_getElem? (i := 93) rfl)) (by decide +kernel)
set_option maxRecDepth 1000000 in
theorem gw_139 : GoodIn lw_tbl [(.methodLink RJ0 495 yJ1_charAt_3b067 : Cond)] := gi_one (mb_3 _ (List.mem_of_getElem? (i := 94) rfl)) (by decide +kernel)
set_option maxRecDepth 1000000 in
theorem gw_138 : GoodIn lw_tbl [(.static yJ1_charAt_3b067 : Cond)] := gi_one (mb_3 _ (List.mem_of_getElem? (i := 95) rfl)) (by decide +kernel)
set_option maxRecDepth 1000000 in
theorem gw_148 : GoodIn lw_tbl [(.code yJ1_charAt_3b067 cJ1_charAt_3b067 2 (some .char) : Cond)] := gi_one (mb_3 _ (List.mem_of_getElem? (i := 96) rfl)) (by decide +kernel)
set_option maxRecDepth 1000000 in
theorem gw_141 : GoodIn lw_tbl [(.methodLink RJ1 9 yJ0_checkIndex_df160 : Cond)] := gi_one (mb_3 _ (List.mem_of_getElem? (i := 97) rfl)) (by decide +kernel)
set_option maxRecDepth 1000000 in
theorem gw_140 : GoodIn lw_tbl [(.static yJ0_checkIndex_df160 : Cond)] := gi_one (mb_3 _ (List.mem_of_getElem? (i := 98) rfl)) (by decide +kernel)
set_option maxRecDepth 1000000 in
theorem gw_146 : GoodIn lw_tbl [(.code yJ0_checkIndex_df160 cJ0_checkIndex_df160 2 none : Cond)] := gi_one (mb_3 _ (List.mem_of_getElem? (i := 99) rfl)) (by decide +kernel)
set_option maxRecDepth 1000000 in
theorem gw_147 : GoodIn lw_tbl [(.fieldLink RJ0 1053 "jdk/internal/util/Preconditions" "SIOOBE_FORMATTER" "Ljava/util/function/BiFunction;" : Cond)] := gi_one (mb_3 _ (List.mem_of_getElem? (i := 100) rfl)) (by decide +kernel)
set_option maxRecDepth 1000000 in
theorem gw_144 : GoodIn lw_tbl [(.methodLink RJ0 1059 yJ3_checkIndex_8e157 : Cond)] := gi_one (mb_3 _ (List.mem_of_getElem? (i := 102) rfl)) (by decide +kernel)
set_option maxRecDepth 1000000 in
theorem gw_143 : GoodIn lw_tbl [(.static yJ3_checkIndex_8e157 : Cond)] := gi_one (mb_3 _ (List.mem_of_getElem? (i := 103) rfl)) (by decide +kernel)
set_option maxRecDepth 1000000 in
theorem gw_145 : GoodIn lw_tbl [(.code yJ3_checkIndex_8e157 cJ3_checkIndex_8e157 3 (some .int) : Cond)] := gi_one (mb_3 _ (List.mem_of_getElem? (i := 104) rfl)) (by decide +kernel)
set_option maxRecDepth 1000000 in
theorem gw_167 : GoodIn lw_tbl [(.fieldLink RX10 5 "KerbSplash$Word" "NO" "LKerbSplash$Word;" : Cond)] := gi_one (mb_3 _ (List.mem_of_getElem? (i := 124) rfl)) (by decide +kernel)
set_option maxRecDepth 1000000 in
theorem gw_193 : GoodIn lw_tbl [(.instanceMethod yX10_beginsClause : Cond)] := gi_one (mb_3 _ (List.mem_of_getElem? (i := 127) rfl)) (by decide +kernel)
set_option maxRecDepth 1000000 in
theorem gw_180 : GoodIn lw_tbl [(.code yX10_beginsClause cX10_beginsClause 1 (some .boolean) : Cond)] := gi_one (mb_3 _ (List.mem_of_getElem? (i := 129) rfl)) (by decide +kernel)
set_option maxRecDepth 1000000 in
theorem gw_185 : GoodIn lw_tbl [(.fieldLink RX10 9 "KerbSplash$Word" "SIZE" "LKerbSplash$Word;" : Cond)] := gi_one (mb_3 _ (List.mem_of_getElem? (i := 130) rfl)) (by decide +kernel)
set_option maxRecDepth 1000000 in
theorem gw_184 : GoodIn lw_tbl [(.fieldLink RX10 12 "KerbSplash$Word" "HIGH" "LKerbSplash$Word;" : Cond)] := gi_one (mb_3 _ (List.mem_of_getElem? (i := 132) rfl)) (by decide +kernel)
set_option maxRecDepth 1000000 in
theorem gw_183 : GoodIn lw_tbl [(.fieldLink RX10 15 "KerbSplash$Word" "DRAIN" "LKerbSplash$Word;" : Cond)] := gi_one (mb_3 _ (List.mem_of_getElem? (i := 134) rfl)) (by decide +kernel)
set_option maxRecDepth 1000000 in
theorem gw_182 : GoodIn lw_tbl [(.fieldLink RX10 18 "KerbSplash$Word" "PERSON" "LKerbSplash$Word;" : Cond)] := gi_one (mb_3 _ (List.mem_of_getElem? (i := 136) rfl)) (by decide +kernel)
set_option maxRecDepth 1000000 in
theorem gw_181 : GoodIn lw_tbl [(.fieldLink RX10 21 "KerbSplash$Word" "SHELTER" "LKerbSplash$Word;" : Cond)] := gi_one (mb_3 _ (List.mem_of_getElem? (i := 138) rfl)) (by decide +kernel)
set_option maxRecDepth 1000000 in
theorem gw_47 : GoodIn lw_tbl [(.instanceMethod yX8_refuse : Cond)] := gi_one (mb_3 _ (List.mem_of_getElem? (i := 142) rfl)) (by decide +kernel)
set_option maxRecDepth 1000000 in
theorem gw_49 : GoodIn lw_tbl [(.code yX8_refuse cX8_refuse 2 none : Cond)] := gi_one (mb_3 _ (List.mem_of_getElem? (i := 143) rfl)) (by decide +kernel)
set_option maxRecDepth 1000000 in
theorem gw_177 : GoodIn lw_tbl [(.methodLink RX7 46 yX7_isFull : Cond)] := gi_one (mb_3 _ (List.mem_of_getElem? (i := 144) rfl)) (by decide +kernel)
set_option maxRecDepth 1000000 in
theorem gw_176 : GoodIn lw_tbl [(.instanceMethod yX7_isFull : Cond)] := gi_one (mb_3 _ (List.mem_of_getElem? (i := 146) rfl)) (by decide +kernel)
set_option maxRecDepth 1000000 in
theorem gw_178 : GoodIn lw_tbl [(.code yX7_isFull cX7_isFull 2 (some .boolean) : Cond)] := gi_one (mb_3 _ (List.mem_of_getElem? (i := 147) rfl)) (by decide +kernel)
set_option maxRecDepth 1000000 in
theorem gw_179 : GoodIn lw_tbl [(.fieldLink RX7 65 "KerbSplash$Word" "DRAIN" "LKerbSplash$Word;" : Cond)] := gi_one (mb_3 _ (List.mem_of_getElem? (i := 148) rfl)) (by decide +kernel)
set_option maxRecDepth 1000000 in
theorem gw_128 : GoodIn lw_tbl [(.fieldLink RX7 72 "KerbSplash$Word" "PERSON" "LKerbSplash$Word;" : Cond)] := gi_one (mb_3 _ (List.mem_of_getElem? (i := 149) rfl)) (by decide +kernel)
set_option maxRecDepth 1000000 in
theorem gw_127 : GoodIn lw_tbl [(.fieldLink RX7 78 "KerbSplash$Word" "SHELTER" "LKerbSplash$Word;" : Cond)] := gi_one (mb_3 _ (List.mem_of_getElem? (i := 150) rfl)) (by decide +kernel)
set_option maxRecDepth 1000000 in
theorem gw_129 : GoodIn lw_tbl [(.fieldLink RX7 50 "KerbSplash$Word" "SIZE" "LKerbSplash$Word;" : Cond)] := gi_one (mb_3 _ (List.mem_of_getElem? (i := 151) rfl)) (by decide +kernel)
set_option maxRecDepth 1000000 in
theorem gw_191 : GoodIn lw_tbl [(.instanceMethod yX8_takeWord : Cond)] := gi_one (mb_3 _ (List.mem_of_getElem? (i := 154) rfl)) (by decide +kernel)
set_option maxRecDepth 1000000 in
theorem gw_174 : GoodIn lw_tbl [(.code yX8_takeWord cX8_takeWord 2 (some .boolean) : Cond)] := gi_one (mb_3 _ (List.mem_of_getElem? (i := 155) rfl)) (by decide +kernel)
set_option maxRecDepth 1000000 in
theorem gw_132 : GoodIn lw_tbl [(.methodLink RX8 52 yX8_word : Cond)] := gi_one (mb_3 _ (List.mem_of_getElem? (i := 156) rfl)) (by decide +kernel)
set_option maxRecDepth 1000000 in
theorem gw_60 : GoodIn lw_tbl [(.methodLink RX7 57 yX7_readNumbers : Cond)] := gi_one (mb_3 _ (List.mem_of_getElem? (i := 157) rfl)) (by decide +kernel)
set_option maxRecDepth 1000000 in
theorem gw_59 : GoodIn lw_tbl [(.instanceMethod yX7_readNumbers : Cond)] := gi_one (mb_3 _ (List.mem_of_getElem? (i := 159) rfl)) (by decide +kernel)
set_option maxRecDepth 1000000 in
theorem gw_126 : GoodIn lw_tbl [(.code yX7_readNumbers cX7_readNumbers 2 none : Cond)] := gi_one (mb_3 _ (List.mem_of_getElem? (i := 160) rfl)) (by decide +kernel)
set_option maxRecDepth 1000000 in
theorem gw_63 : GoodIn lw_tbl [(.methodLink RX7 90 yX7_readWork : Cond)] := gi_one (mb_3 _ (List.mem_of_getElem? (i := 161) rfl)) (by decide +kernel)
set_option maxRecDepth 1000000 in
theorem gw_62 : GoodIn lw_tbl [(.instanceMethod yX7_readWork : Cond)] := gi_one (mb_3 _ (List.mem_of_getElem? (i := 163) rfl)) (by decide +kernel)
set_option maxRecDepth 1000000 in
theorem gw_77 : GoodIn lw_tbl [(.code yX7_readWork cX7_readWork 6 none : Cond)] := gi_one (mb_3 _ (List.mem_of_getElem? (i := 164) rfl)) (by decide +kernel)
set_option maxRecDepth 1000000 in
theorem gw_84 : GoodIn lw_tbl [(.instanceMethod yX8_number : Cond)] := gi_one (mb_3 _ (List.mem_of_getElem? (i := 167) rfl)) (by decide +kernel)
set_option maxRecDepth 1000000 in
theorem gw_71 : GoodIn lw_tbl [(.code yX8_number cX8_number 5 (some .int) : Cond)] := gi_one (mb_3 _ (List.mem_of_getElem? (i := 168) rfl)) (by decide +kernel)
set_option maxRecDepth 1000000 in
theorem gw_69 : GoodIn lw_tbl [(.methodLink RX8 56 yX8_isDigit : Cond)] := gi_one (mb_3 _ (List.mem_of_getElem? (i := 169) rfl)) (by decide +kernel)
set_option maxRecDepth 1000000 in
theorem gw_68 : GoodIn lw_tbl [(.static yX8_isDigit : Cond)] := gi_one (mb_3 _ (List.mem_of_getElem? (i := 170) rfl)) (by decide +kernel)
set_option maxRecDepth 1000000 in
theorem gw_70 : GoodIn lw_tbl [(.code yX8_isDigit cX8_isDigit 1 (some .boolean) : Cond)] := gi_one (mb_3 _ (List.mem_of_getElem? (i := 171) rfl)) (by decide +kernel)
set_option maxRecDepth 1000000 in
theorem gw_48 : GoodIn lw_tbl [(.methodLink RX8 38 yX8_refuse : Cond)] := gi_one (mb_3 _ (List.mem_of_getElem? (i := 172) rfl)) (by decide +kernel)
set_option maxRecDepth 1000000 in
theorem gw_82 : GoodIn lw_tbl [(.instanceMethod yX8_good : Cond)] := gi_one (mb_3 _ (List.mem_of_getElem? (i := 179) rfl)) (by decide +kernel)
set_option maxRecDepth 1000000 in
theorem gw_40 : GoodIn lw_tbl [(.code yX8_good cX8_good 1 (some .boolean) : Cond)] := gi_one (mb_3 _ (List.mem_of_getElem? (i := 180) rfl)) (by decide +kernel)
set_option maxRecDepth 1000000 in
theorem gw_79 : GoodIn lw_tbl [(.instanceMethod yX6_addWork : Cond)] := gi_one (mb_3 _ (List.mem_of_getElem? (i := 183) rfl)) (by decide +kernel)
set_option maxRecDepth 1000000 in
theorem gw_64 : GoodIn lw_tbl [(.code yX6_addWork cX6_addWork 7 none : Cond)] := gi_one (mb_3 _ (List.mem_of_getElem? (i := 184) rfl)) (by decide +kernel)
set_option maxRecDepth 1000000 in
theorem gw_89 : GoodIn lw_tbl [(.methodLink RX7 93 yX7_readSize : Cond)] := gi_one (mb_3 _ (List.mem_of_getElem? (i := 185) rfl)) (by decide +kernel)
set_option maxRecDepth 1000000 in
theorem gw_88 : GoodIn lw_tbl [(.instanceMethod yX7_readSize : Cond)] := gi_one (mb_3 _ (List.mem_of_getElem? (i := 187) rfl)) (by decide +kernel)
set_option maxRecDepth 1000000 in
theorem gw_90 : GoodIn lw_tbl [(.code yX7_readSize cX7_readSize 3 none : Cond)] := gi_one (mb_3 _ (List.mem_of_getElem? (i := 188) rfl)) (by decide +kernel)
set_option maxRecDepth 1000000 in
theorem gw_93 : GoodIn lw_tbl [(.methodLink RX7 96 yX7_readPerson : Cond)] := gi_one (mb_3 _ (List.mem_of_getElem? (i := 189) rfl)) (by decide +kernel)
set_option maxRecDepth 1000000 in
theorem gw_92 : GoodIn lw_tbl [(.instanceMethod yX7_readPerson : Cond)] := gi_one (mb_3 _ (List.mem_of_getElem? (i := 191) rfl)) (by decide +kernel)
set_option maxRecDepth 1000000 in
theorem gw_101 : GoodIn lw_tbl [(.code yX7_readPerson cX7_readPerson 3 none : Cond)] := gi_one (mb_3 _ (List.mem_of_getElem? (i := 192) rfl)) (by decide +kernel)
set_option maxRecDepth 1000000 in
theorem gw_103 : GoodIn lw_tbl [(.instanceMethod yX6_addPerson : Cond)] := gi_one (mb_3 _ (List.mem_of_getElem? (i := 195) rfl)) (by decide +kernel)
set_option maxRecDepth 1000000 in
theorem gw_99 : GoodIn lw_tbl [(.code yX6_addPerson cX6_addPerson 3 none : Cond)] := gi_one (mb_3 _ (List.mem_of_getElem? (i := 196) rfl)) (by decide +kernel)
set_option maxRecDepth 1000000 in
theorem gw_96 : GoodIn lw_tbl [(.methodLink RX6 84 yX6_putPerson : Cond)] := gi_one (mb_3 _ (List.mem_of_getElem? (i := 197) rfl)) (by decide +kernel)
set_option maxRecDepth 1000000 in
theorem gw_95 : GoodIn lw_tbl [(.instanceMethod yX6_putPerson : Cond)] := gi_one (mb_3 _ (List.mem_of_getElem? (i := 199) rfl)) (by decide +kernel)
set_option maxRecDepth 1000000 in
theorem gw_97 : GoodIn lw_tbl [(.code yX6_putPerson cX6_putPerson 5 none : Cond)] := gi_one (mb_3 _ (List.mem_of_getElem? (i := 200) rfl)) (by decide +kernel)
set_option maxRecDepth 1000000 in
theorem gw_106 : GoodIn lw_tbl [(.methodLink RX7 99 yX7_readShelter : Cond)] := gi_one (mb_3 _ (List.mem_of_getElem? (i := 201) rfl)) (by decide +kernel)
set_option maxRecDepth 1000000 in
theorem gw_105 : GoodIn lw_tbl [(.instanceMethod yX7_readShelter : Cond)] := gi_one (mb_3 _ (List.mem_of_getElem? (i := 203) rfl)) (by decide +kernel)
set_option maxRecDepth 1000000 in
theorem gw_110 : GoodIn lw_tbl [(.code yX7_readShelter cX7_readShelter 3 none : Cond)] := gi_one (mb_3 _ (List.mem_of_getElem? (i := 204) rfl)) (by decide +kernel)
set_option maxRecDepth 1000000 in
theorem gw_112 : GoodIn lw_tbl [(.instanceMethod yX6_addShelter : Cond)] := gi_one (mb_3 _ (List.mem_of_getElem? (i := 207) rfl)) (by decide +kernel)
set_option maxRecDepth 1000000 in
theorem gw_107 : GoodIn lw_tbl [(.code yX6_addShelter cX6_addShelter 4 none : Cond)] := gi_one (mb_3 _ (List.mem_of_getElem? (i := 208) rfl)) (by decide +kernel)
set_option maxRecDepth 1000000 in
theorem gw_115 : GoodIn lw_tbl [(.methodLink RX7 102 yX7_readOfCell : Cond)] := gi_one (mb_3 _ (List.mem_of_getElem? (i := 209) rfl)) (by decide +kernel)
set_option maxRecDepth 1000000 in
theorem gw_114 : GoodIn lw_tbl [(.instanceMethod yX7_readOfCell : Cond)] := gi_one (mb_3 _ (List.mem_of_getElem? (i := 211) rfl)) (by decide +kernel)
set_option maxRecDepth 1000000 in
theorem gw_120 : GoodIn lw_tbl [(.code yX7_readOfCell cX7_readOfCell 6 none : Cond)] := gi_one (mb_3 _ (List.mem_of_getElem? (i := 212) rfl)) (by decide +kernel)
set_option maxRecDepth 1000000 in
theorem gw_125 : GoodIn lw_tbl [(.fieldLink RX7 125 "KerbSplash$Word" "HIGH" "LKerbSplash$Word;" : Cond)] := gi_one (mb_3 _ (List.mem_of_getElem? (i := 213) rfl)) (by decide +kernel)
set_option maxRecDepth 1000000 in
theorem gw_122 : GoodIn lw_tbl [(.instanceMethod yX6_index : Cond)] := gi_one (mb_3 _ (List.mem_of_getElem? (i := 216) rfl)) (by decide +kernel)
set_option maxRecDepth 1000000 in
theorem gw_116 : GoodIn lw_tbl [(.code yX6_index cX6_index 3 (some .int) : Cond)] := gi_one (mb_3 _ (List.mem_of_getElem? (i := 217) rfl)) (by decide +kernel)
set_option maxRecDepth 1000000 in
theorem gw_124 : GoodIn lw_tbl [(.instanceMethod yX6_addDrain : Cond)] := gi_one (mb_3 _ (List.mem_of_getElem? (i := 220) rfl)) (by decide +kernel)
set_option maxRecDepth 1000000 in
theorem gw_117 : GoodIn lw_tbl [(.code yX6_addDrain cX6_addDrain 6 none : Cond)] := gi_one (mb_3 _ (List.mem_of_getElem? (i := 221) rfl)) (by decide +kernel)
set_option maxRecDepth 1000000 in
theorem gw_189 : GoodIn lw_tbl [(.instanceMethod yX8_want : Cond)] := gi_one (mb_3 _ (List.mem_of_getElem? (i := 224) rfl)) (by decide +kernel)
set_option maxRecDepth 1000000 in
theorem gw_57 : GoodIn lw_tbl [(.code yX8_want cX8_want 2 none : Cond)] := gi_one (mb_3 _ (List.mem_of_getElem? (i := 225) rfl)) (by decide +kernel)
set_option maxRecDepth 1000000 in
theorem gw_235 : GoodIn lw_tbl [(.instanceMethod yX4_reset : Cond)] := gi_one (mb_3 _ (List.mem_of_getElem? (i := 229) rfl)) (by decide +kernel)
set_option maxRecDepth 1000000 in
theorem gw_36 : GoodIn lw_tbl [(.code yX4_reset cX4_reset 1 none : Cond)] := gi_one (mb_3 _ (List.mem_of_getElem? (i := 230) rfl)) (by decide +kernel)
set_option maxRecDepth 1000000 in
theorem gw_34 : GoodIn lw_tbl [(.methodLink RX4 28 yJ7_fill_53178 : Cond)] := gi_one (mb_3 _ (List.mem_of_getElem? (i := 231) rfl)) (by decide +kernel)
set_option maxRecDepth 1000000 in
theorem gw_232 : GoodIn lw_tbl [(.instanceMethod yX6_cells : Cond)] := gi_one (mb_3 _ (List.mem_of_getElem? (i := 234) rfl)) (by decide +kernel)
set_option maxRecDepth 1000000 in
theorem gw_29 : GoodIn lw_tbl [(.code yX6_cells cX6_cells 1 (some .int) : Cond)] := gi_one (mb_3 _ (List.mem_of_getElem? (i := 235) rfl)) (by decide +kernel)
set_option maxRecDepth 1000000 in
theorem gw_354 : GoodIn lw_tbl [(.methodLink RL 131 yL_rain : Cond)] := gi_one (mb_3 _ (List.mem_of_getElem? (i := 236) rfl)) (by decide +kernel)
set_option maxRecDepth 1000000 in
theorem gw_353 : GoodIn lw_tbl [(.static yL_rain : Cond)] := gi_one (mb_3 _ (List.mem_of_getElem? (i := 237) rfl)) (by decide +kernel)
set_option maxRecDepth 1000000 in
theorem gw_379 : GoodIn lw_tbl [(.codeWith yL_rain cL_rain 4 (some .int) [(0, 9, 12, 13)] : Cond)] := gi_one (mb_3 _ (List.mem_of_getElem? (i := 238) rfl)) (by decide +kernel)
set_option maxRecDepth 1000000 in
theorem gw_357 : GoodIn lw_tbl [(.methodLink RL 15 yX11_rain : Cond)] := gi_one (mb_3 _ (List.mem_of_getElem? (i := 239) rfl)) (by decide +kernel)
set_option maxRecDepth 1000000 in
theorem gw_356 : GoodIn lw_tbl [(.instanceMethod yX11_rain : Cond)] := gi_one (mb_4 _ (List.mem_of_getElem? (i := 0) rfl)) (by decide +kernel)
set_option maxRecDepth 1000000 in
theorem gw_355 : GoodIn lw_tbl [(.selects RX11 yX11_rain yX11_rain : Cond)] := gi_one (mb_4 _ (List.mem_of_getElem? (i := 1) rfl)) (by decide +kernel)
set_option maxRecDepth 1000000 in
theorem gw_374 : GoodIn lw_tbl [(.code yX11_rain cX11_rain 2 (some .int) : Cond)] := gi_one (mb_4 _ (List.mem_of_getElem? (i := 2) rfl)) (by decide +kernel)
set_option maxRecDepth 1000000 in
theorem gw_376 : GoodIn lw_tbl [(.instanceMethod yX5_read : Cond)] := gi_one (mb_4 _ (List.mem_of_getElem? (i := 5) rfl)) (by decide +kernel)
set_option maxRecDepth 1000000 in
theorem gw_373 : GoodIn lw_tbl [(.code yX5_read cX5_read 3 none : Cond)] := gi_one (mb_4 _ (List.mem_of_getElem? (i := 6) rfl)) (by decide +kernel)
set_option maxRecDepth 1000000 in
theorem gw_361 : GoodIn lw_tbl [(.methodLink RX5 27 yX5_readPiece : Cond)] := gi_one (mb_4 _ (List.mem_of_getElem? (i := 9) rfl)) (by decide +kernel)
set_option maxRecDepth 1000000 in
theorem gw_360 : GoodIn lw_tbl [(.instanceMethod yX5_readPiece : Cond)] := gi_one (mb_4 _ (List.mem_of_getElem? (i := 11) rfl)) (by decide +kernel)
set_option maxRecDepth 1000000 in
theorem gw_369 : GoodIn lw_tbl [(.code yX5_readPiece cX5_readPiece 5 none : Cond)] := gi_one (mb_4 _ (List.mem_of_getElem? (i := 12) rfl)) (by decide +kernel)
set_option maxRecDepth 1000000 in
theorem gw_372 : GoodIn lw_tbl [(.fieldLink RX5 35 "KerbSplash$Word" "RAIN" "LKerbSplash$Word;" : Cond)] := gi_one (mb_4 _ (List.mem_of_getElem? (i := 14) rfl)) (by decide +kernel)
set_option maxRecDepth 1000000 in
theorem gw_371 : GoodIn lw_tbl [(.instanceMethod yX8_wantWord : Cond)] := gi_one (mb_4 _ (List.mem_of_getElem? (i := 18) rfl)) (by decide +kernel)
set_option maxRecDepth 1000000 in
theorem gw_368 : GoodIn lw_tbl [(.code yX8_wantWord cX8_wantWord 2 none : Cond)] := gi_one (mb_4 _ (List.mem_of_getElem? (i := 19) rfl)) (by decide +kernel)
set_option maxRecDepth 1000000 in
theorem gw_364 : GoodIn lw_tbl [(.methodLink RX5 56 yX5_add : Cond)] := gi_one (mb_4 _ (List.mem_of_getElem? (i := 23) rfl)) (by decide +kernel)
set_option maxRecDepth 1000000 in
theorem gw_363 : GoodIn lw_tbl [(.instanceMethod yX5_add : Cond)] := gi_one (mb_4 _ (List.mem_of_getElem? (i := 25) rfl)) (by decide +kernel)
set_option maxRecDepth 1000000 in
theorem gw_365 : GoodIn lw_tbl [(.code yX5_add cX5_add 4 none : Cond)] := gi_one (mb_4 _ (List.mem_of_getElem? (i := 26) rfl)) (by decide +kernel)
set_option maxRecDepth 1000000 in
theorem gw_389 : GoodIn lw_tbl [(.methodLink RL 134 yL_law : Cond)] := gi_one (mb_4 _ (List.mem_of_getElem? (i := 27) rfl)) (by decide +kernel)
set_option maxRecDepth 1000000 in
theorem gw_388 : GoodIn lw_tbl [(.static yL_law : Cond)] := gi_one (mb_4 _ (List.mem_of_getElem? (i := 28) rfl)) (by decide +kernel)
set_option maxRecDepth 1000000 in
theorem gw_471 : GoodIn lw_tbl [(.codeWith yL_law cL_law 4 (some .int) [(0, 9, 12, 13)] : Cond)] := gi_one (mb_4 _ (List.mem_of_getElem? (i := 29) rfl)) (by decide +kernel)
set_option maxRecDepth 1000000 in
theorem gw_392 : GoodIn lw_tbl [(.methodLink RL 18 yX11_law : Cond)] := gi_one (mb_4 _ (List.mem_of_getElem? (i := 30) rfl)) (by decide +kernel)
set_option maxRecDepth 1000000 in
theorem gw_391 : GoodIn lw_tbl [(.instanceMethod yX11_law : Cond)] := gi_one (mb_4 _ (List.mem_of_getElem? (i := 31) rfl)) (by decide +kernel)
set_option maxRecDepth 1000000 in
theorem gw_390 : GoodIn lw_tbl [(.selects RX11 yX11_law yX11_law : Cond)] := gi_one (mb_4 _ (List.mem_of_getElem? (i := 32) rfl)) (by decide +kernel)
set_option maxRecDepth 1000000 in
theorem gw_463 : GoodIn lw_tbl [(.code yX11_law cX11_law 2 (some .int) : Cond)] := gi_one (mb_4 _ (List.mem_of_getElem? (i := 33) rfl)) (by decide +kernel)
set_option maxRecDepth 1000000 in
theorem gw_469 : GoodIn lw_tbl [(.classLink RX11 121 RX2 : Cond)] := gi_one (mb_4 _ (List.mem_of_getElem? (i := 34) rfl)) (by decide +kernel)
set_option maxRecDepth 1000000 in
theorem gw_468 : GoodIn lw_tbl [(.instantiable RX2 3 : Cond)] := gi_one (mb_4 _ (List.mem_of_getElem? (i := 35) rfl)) (by decide +kernel)
set_option maxRecDepth 1000000 in
theorem gw_466 : GoodIn lw_tbl [(.instanceMethod yX2_init : Cond)] := gi_one (mb_4 _ (List.mem_of_getElem? (i := 37) rfl)) (by decide +kernel)
set_option maxRecDepth 1000000 in
theorem gw_461 : GoodIn lw_tbl [(.code yX2_init cX2_init 3 none : Cond)] := gi_one (mb_4 _ (List.mem_of_getElem? (i := 38) rfl)) (by decide +kernel)
set_option maxRecDepth 1000000 in
theorem gw_462 : GoodIn lw_tbl [(.methodLink RX2 3 objectInit : Cond)] := gi_one (mb_4 _ (List.mem_of_getElem? (i := 39) rfl)) (by decide +kernel)
set_option maxRecDepth 1000000 in
theorem gw_409 : GoodIn lw_tbl [(.fieldLink RX2 9 "KerbSplash$LawReader" "tape" "LKerbSplash$Tape;" : Cond)] := gi_one (mb_4 _ (List.mem_of_getElem? (i := 40) rfl)) (by decide +kernel)
set_option maxRecDepth 1000000 in
theorem gw_453 : GoodIn lw_tbl [(.fieldLink RX2 15 "KerbSplash$LawReader" "law" "LKerbSplash$Law;" : Cond)] := gi_one (mb_4 _ (List.mem_of_getElem? (i := 41) rfl)) (by decide +kernel)
set_option maxRecDepth 1000000 in
theorem gw_410 : GoodIn lw_tbl [(.fieldLink RX2 105 "KerbSplash$LawReader" "opened" "I" : Cond)] := gi_one (mb_4 _ (List.mem_of_getElem? (i := 42) rfl)) (by decide +kernel)
set_option maxRecDepth 1000000 in
theorem gw_465 : GoodIn lw_tbl [(.instanceMethod yX2_read : Cond)] := gi_one (mb_4 _ (List.mem_of_getElem? (i := 52) rfl)) (by decide +kernel)
set_option maxRecDepth 1000000 in
theorem gw_458 : GoodIn lw_tbl [(.code yX2_read cX2_read 2 none : Cond)] := gi_one (mb_4 _ (List.mem_of_getElem? (i := 53) rfl)) (by decide +kernel)
set_option maxRecDepth 1000000 in
theorem gw_460 : GoodIn lw_tbl [(.instanceMethod yX1_reset : Cond)] := gi_one (mb_4 _ (List.mem_of_getElem? (i := 56) rfl)) (by decide +kernel)
set_option maxRecDepth 1000000 in
theorem gw_456 : GoodIn lw_tbl [(.code yX1_reset cX1_reset 1 none : Cond)] := gi_one (mb_4 _ (List.mem_of_getElem? (i := 57) rfl)) (by decide +kernel)
set_option maxRecDepth 1000000 in
theorem gw_455 : GoodIn lw_tbl [(.methodLink RX1 27 yJ7_fill_53178 : Cond)] := gi_one (mb_4 _ (List.mem_of_getElem? (i := 58) rfl)) (by decide +kernel)
set_option maxRecDepth 1000000 in
theorem gw_396 : GoodIn lw_tbl [(.methodLink RX2 30 yX2_readSaying : Cond)] := gi_one (mb_4 _ (List.mem_of_getElem? (i := 60) rfl)) (by decide +kernel)
set_option maxRecDepth 1000000 in
theorem gw_395 : GoodIn lw_tbl [(.instanceMethod yX2_readSaying : Cond)] := gi_one (mb_4 _ (List.mem_of_getElem? (i := 62) rfl)) (by decide +kernel)
set_option maxRecDepth 1000000 in
theorem gw_454 : GoodIn lw_tbl [(.code yX2_readSaying cX2_readSaying 2 none : Cond)] := gi_one (mb_4 _ (List.mem_of_getElem? (i := 63) rfl)) (by decide +kernel)
set_option maxRecDepth 1000000 in
theorem gw_402 : GoodIn lw_tbl [(.methodLink RX2 62 yX2_readValue : Cond)] := gi_one (mb_4 _ (List.mem_of_getElem? (i := 68) rfl)) (by decide +kernel)
set_option maxRecDepth 1000000 in
theorem gw_401 : GoodIn lw_tbl [(.instanceMethod yX2_readValue : Cond)] := gi_one (mb_4 _ (List.mem_of_getElem? (i := 70) rfl)) (by decide +kernel)
set_option maxRecDepth 1000000 in
theorem gw_449 : GoodIn lw_tbl [(.code yX2_readValue cX2_readValue 2 none : Cond)] := gi_one (mb_4 _ (List.mem_of_getElem? (i := 71) rfl)) (by decide +kernel)
set_option maxRecDepth 1000000 in
theorem gw_442 : GoodIn lw_tbl [(.fieldLink RX2 69 "KerbSplash$Word" "IF" "LKerbSplash$Word;" : Cond)] := gi_one (mb_4 _ (List.mem_of_getElem? (i := 72) rfl)) (by decide +kernel)
set_option maxRecDepth 1000000 in
theorem gw_429 : GoodIn lw_tbl [(.methodLink RX2 73 yX2_readChoice : Cond)] := gi_one (mb_4 _ (List.mem_of_getElem? (i := 74) rfl)) (by decide +kernel)
set_option maxRecDepth 1000000 in
theorem gw_428 : GoodIn lw_tbl [(.instanceMethod yX2_readChoice : Cond)] := gi_one (mb_4 _ (List.mem_of_getElem? (i := 76) rfl)) (by decide +kernel)
set_option maxRecDepth 1000000 in
theorem gw_426 : GoodIn lw_tbl [(.code yX2_readChoice cX2_readChoice 3 none : Cond)] := gi_one (mb_4 _ (List.mem_of_getElem? (i := 77) rfl)) (by decide +kernel)
set_option maxRecDepth 1000000 in
theorem gw_407 : GoodIn lw_tbl [(.methodLink RX2 86 yX2_open : Cond)] := gi_one (mb_4 _ (List.mem_of_getElem? (i := 78) rfl)) (by decide +kernel)
set_option maxRecDepth 1000000 in
theorem gw_406 : GoodIn lw_tbl [(.instanceMethod yX2_open : Cond)] := gi_one (mb_4 _ (List.mem_of_getElem? (i := 80) rfl)) (by decide +kernel)
set_option maxRecDepth 1000000 in
theorem gw_408 : GoodIn lw_tbl [(.code yX2_open cX2_open 1 (some .boolean) : Cond)] := gi_one (mb_4 _ (List.mem_of_getElem? (i := 81) rfl)) (by decide +kernel)
set_option maxRecDepth 1000000 in
theorem gw_441 : GoodIn lw_tbl [(.methodLink RX2 93 yX2_readCondition : Cond)] := gi_one (mb_4 _ (List.mem_of_getElem? (i := 83) rfl)) (by decide +kernel)
set_option maxRecDepth 1000000 in
theorem gw_440 : GoodIn lw_tbl [(.instanceMethod yX2_readCondition : Cond)] := gi_one (mb_4 _ (List.mem_of_getElem? (i := 85) rfl)) (by decide +kernel)
set_option maxRecDepth 1000000 in
theorem gw_438 : GoodIn lw_tbl [(.code yX2_readCondition cX2_readCondition 2 none : Cond)] := gi_one (mb_4 _ (List.mem_of_getElem? (i := 86) rfl)) (by decide +kernel)
set_option maxRecDepth 1000000 in
theorem gw_415 : GoodIn lw_tbl [(.methodLink RX2 121 yX2_readAlternative : Cond)] := gi_one (mb_4 _ (List.mem_of_getElem? (i := 87) rfl)) (by decide +kernel)
set_option maxRecDepth 1000000 in
theorem gw_414 : GoodIn lw_tbl [(.instanceMethod yX2_readAlternative : Cond)] := gi_one (mb_4 _ (List.mem_of_getElem? (i := 89) rfl)) (by decide +kernel)
set_option maxRecDepth 1000000 in
theorem gw_412 : GoodIn lw_tbl [(.code yX2_readAlternative cX2_readAlternative 2 none : Cond)] := gi_one (mb_4 _ (List.mem_of_getElem? (i := 90) rfl)) (by decide +kernel)
set_option maxRecDepth 1000000 in
theorem gw_420 : GoodIn lw_tbl [(.methodLink RX2 127 yX2_readTest : Cond)] := gi_one (mb_4 _ (List.mem_of_getElem? (i := 91) rfl)) (by decide +kernel)
set_option maxRecDepth 1000000 in
theorem gw_419 : GoodIn lw_tbl [(.instanceMethod yX2_readTest : Cond)] := gi_one (mb_4 _ (List.mem_of_getElem? (i := 93) rfl)) (by decide +kernel)
set_option maxRecDepth 1000000 in
theorem gw_417 : GoodIn lw_tbl [(.code yX2_readTest cX2_readTest 1 none : Cond)] := gi_one (mb_4 _ (List.mem_of_getElem? (i := 94) rfl)) (by decide +kernel)
set_option maxRecDepth 1000000 in
theorem gw_425 : GoodIn lw_tbl [(.fieldLink RX2 133 "KerbSplash$Word" "NOT" "LKerbSplash$Word;" : Cond)] := gi_one (mb_4 _ (List.mem_of_getElem? (i := 95) rfl)) (by decide +kernel)
set_option maxRecDepth 1000000 in
theorem gw_451 : GoodIn lw_tbl [(.instanceMethod yX1_add : Cond)] := gi_one (mb_4 _ (List.mem_of_getElem? (i := 99) rfl)) (by decide +kernel)
set_option maxRecDepth 1000000 in
theorem gw_397 : GoodIn lw_tbl [(.code yX1_add cX1_add 3 (some .int) : Cond)] := gi_one (mb_4 _ (List.mem_of_getElem? (i := 100) rfl)) (by decide +kernel)
set_option maxRecDepth 1000000 in
theorem gw_424 : GoodIn lw_tbl [(.methodLink RX2 136 yX2_readComparison : Cond)] := gi_one (mb_4 _ (List.mem_of_getElem? (i := 102) rfl)) (by decide +kernel)
set_option maxRecDepth 1000000 in
theorem gw_423 : GoodIn lw_tbl [(.instanceMethod yX2_readComparison : Cond)] := gi_one (mb_4 _ (List.mem_of_getElem? (i := 104) rfl)) (by decide +kernel)
set_option maxRecDepth 1000000 in
theorem gw_421 : GoodIn lw_tbl [(.code yX2_readComparison cX2_readComparison 2 none : Cond)] := gi_one (mb_4 _ (List.mem_of_getElem? (i := 105) rfl)) (by decide +kernel)
set_option maxRecDepth 1000000 in
theorem gw_444 : GoodIn lw_tbl [(.instanceMethod yX8_take : Cond)] := gi_one (mb_4 _ (List.mem_of_getElem? (i := 108) rfl)) (by decide +kernel)
set_option maxRecDepth 1000000 in
theorem gw_404 : GoodIn lw_tbl [(.code yX8_take cX8_take 2 (some .boolean) : Cond)] := gi_one (mb_4 _ (List.mem_of_getElem? (i := 109) rfl)) (by decide +kernel)
set_option maxRecDepth 1000000 in
theorem gw_416 : GoodIn lw_tbl [(.fieldLink RX2 130 "KerbSplash$Word" "AND" "LKerbSplash$Word;" : Cond)] := gi_one (mb_4 _ (List.mem_of_getElem? (i := 110) rfl)) (by decide +kernel)
set_option maxRecDepth 1000000 in
theorem gw_411 : GoodIn lw_tbl [(.fieldLink RX2 124 "KerbSplash$Word" "OR" "LKerbSplash$Word;" : Cond)] := gi_one (mb_4 _ (List.mem_of_getElem? (i := 112) rfl)) (by decide +kernel)
set_option maxRecDepth 1000000 in
theorem gw_437 : GoodIn lw_tbl [(.fieldLink RX2 96 "KerbSplash$Word" "THEN" "LKerbSplash$Word;" : Cond)] := gi_one (mb_4 _ (List.mem_of_getElem? (i := 114) rfl)) (by decide +kernel)
set_option maxRecDepth 1000000 in
theorem gw_436 : GoodIn lw_tbl [(.fieldLink RX2 99 "KerbSplash$Word" "ELSE" "LKerbSplash$Word;" : Cond)] := gi_one (mb_4 _ (List.mem_of_getElem? (i := 116) rfl)) (by decide +kernel)
set_option maxRecDepth 1000000 in
theorem gw_435 : GoodIn lw_tbl [(.instanceMethod yX1_aim : Cond)] := gi_one (mb_4 _ (List.mem_of_getElem? (i := 120) rfl)) (by decide +kernel)
set_option maxRecDepth 1000000 in
theorem gw_403 : GoodIn lw_tbl [(.code yX1_aim cX1_aim 2 none : Cond)] := gi_one (mb_4 _ (List.mem_of_getElem? (i := 121) rfl)) (by decide +kernel)
set_option maxRecDepth 1000000 in
theorem gw_433 : GoodIn lw_tbl [(.methodLink RX2 76 yX2_readProduct : Cond)] := gi_one (mb_4 _ (List.mem_of_getElem? (i := 122) rfl)) (by decide +kernel)
set_option maxRecDepth 1000000 in
theorem gw_432 : GoodIn lw_tbl [(.instanceMethod yX2_readProduct : Cond)] := gi_one (mb_4 _ (List.mem_of_getElem? (i := 124) rfl)) (by decide +kernel)
set_option maxRecDepth 1000000 in
theorem gw_430 : GoodIn lw_tbl [(.code yX2_readProduct cX2_readProduct 2 none : Cond)] := gi_one (mb_4 _ (List.mem_of_getElem? (i := 125) rfl)) (by decide +kernel)
set_option maxRecDepth 1000000 in
theorem gw_448 : GoodIn lw_tbl [(.methodLink RX2 108 yX2_readUnit : Cond)] := gi_one (mb_4 _ (List.mem_of_getElem? (i := 126) rfl)) (by decide +kernel)
set_option maxRecDepth 1000000 in
theorem gw_447 : GoodIn lw_tbl [(.instanceMethod yX2_readUnit : Cond)] := gi_one (mb_4 _ (List.mem_of_getElem? (i := 128) rfl)) (by decide +kernel)
set_option maxRecDepth 1000000 in
theorem gw_445 : GoodIn lw_tbl [(.code yX2_readUnit cX2_readUnit 2 none : Cond)] := gi_one (mb_4 _ (List.mem_of_getElem? (i := 129) rfl)) (by decide +kernel)
set_option maxRecDepth 1000000 in
theorem gw_531 : GoodIn lw_tbl [(.methodLink RL 142 yL_told : Cond)] := gi_one (mb_4 _ (List.mem_of_getElem? (i := 132) rfl)) (by decide +kernel)
set_option maxRecDepth 1000000 in
theorem gw_530 : GoodIn lw_tbl [(.static yL_told : Cond)] := gi_one (mb_4 _ (List.mem_of_getElem? (i := 133) rfl)) (by decide +kernel)
set_option maxRecDepth 1000000 in
theorem gw_536 : GoodIn lw_tbl [(.codeWith yL_told cL_told 4 (some .int) [(0, 9, 12, 13)] : Cond)] := gi_one (mb_4 _ (List.mem_of_getElem? (i := 134) rfl)) (by decide +kernel)
set_option maxRecDepth 1000000 in
theorem gw_534 : GoodIn lw_tbl [(.methodLink RL 21 yX11_told : Cond)] := gi_one (mb_4 _ (List.mem_of_getElem? (i := 135) rfl)) (by decide +kernel)
set_option maxRecDepth 1000000 in
theorem gw_533 : GoodIn lw_tbl [(.instanceMethod yX11_told : Cond)] := gi_one (mb_4 _ (List.mem_of_getElem? (i := 136) rfl)) (by decide +kernel)
set_option maxRecDepth 1000000 in
theorem gw_532 : GoodIn lw_tbl [(.selects RX11 yX11_told yX11_told : Cond)] := gi_one (mb_4 _ (List.mem_of_getElem? (i := 137) rfl)) (by decide +kernel)
set_option maxRecDepth 1000000 in
theorem gw_535 : GoodIn lw_tbl [(.code yX11_told cX11_told 2 (some .int) : Cond)] := gi_one (mb_4 _ (List.mem_of_getElem? (i := 138) rfl)) (by decide +kernel)
set_option maxRecDepth 1000000 in
theorem gw_549 : GoodIn lw_tbl [(.methodLink RL 145 yL_cell : Cond)] := gi_one (mb_4 _ (List.mem_of_getElem? (i := 139) rfl)) (by decide +kernel)
set_option maxRecDepth 1000000 in
theorem gw_548 : GoodIn lw_tbl [(.static yL_cell : Cond)] := gi_one (mb_4 _ (List.mem_of_getElem? (i := 140) rfl)) (by decide +kernel)
set_option maxRecDepth 1000000 in
theorem gw_566 : GoodIn lw_tbl [(.codeWith yL_cell cL_cell 6 (some .int) [(0, 12, 15, 28), (0, 12, 19, 13)] : Cond)] := gi_one (mb_4 _ (List.mem_of_getElem? (i := 141) rfl)) (by decide +kernel)
set_option maxRecDepth 1000000 in
theorem gw_567 : GoodIn lw_tbl [(.classLink RL 28 "java/lang/IndexOutOfBoundsException" : Cond)] := gi_one (mb_4 _ (List.mem_of_getElem? (i := 142) rfl)) (by decide +kernel)
set_option maxRecDepth 1000000 in
theorem gw_552 : GoodIn lw_tbl [(.methodLink RL 24 yX11_cell : Cond)] := gi_one (mb_4 _ (List.mem_of_getElem? (i := 143) rfl)) (by decide +kernel)
set_option maxRecDepth 1000000 in
theorem gw_551 : GoodIn lw_tbl [(.instanceMethod yX11_cell : Cond)] := gi_one (mb_4 _ (List.mem_of_getElem? (i := 144) rfl)) (by decide +kernel)
set_option maxRecDepth 1000000 in
theorem gw_550 : GoodIn lw_tbl [(.selects RX11 yX11_cell yX11_cell : Cond)] := gi_one (mb_4 _ (List.mem_of_getElem? (i := 145) rfl)) (by decide +kernel)
set_option maxRecDepth 1000000 in
theorem gw_563 : GoodIn lw_tbl [(.code yX11_cell cX11_cell 5 (some .int) : Cond)] := gi_one (mb_4 _ (List.mem_of_getElem? (i := 146) rfl)) (by decide +kernel)
set_option maxRecDepth 1000000 in
theorem gw_556 : GoodIn lw_tbl [(.methodLink RX11 159 yX11_needCell : Cond)] := gi_one (mb_4 _ (List.mem_of_getElem? (i := 147) rfl)) (by decide +kernel)
set_option maxRecDepth 1000000 in
theorem gw_555 : GoodIn lw_tbl [(.instanceMethod yX11_needCell : Cond)] := gi_one (mb_4 _ (List.mem_of_getElem? (i := 149) rfl)) (by decide +kernel)
set_option maxRecDepth 1000000 in
theorem gw_558 : GoodIn lw_tbl [(.code yX11_needCell cX11_needCell 3 none : Cond)] := gi_one (mb_4 _ (List.mem_of_getElem? (i := 150) rfl)) (by decide +kernel)
set_option maxRecDepth 1000000 in
theorem gw_562 : GoodIn lw_tbl [(.instanceMethod yX6_has : Cond)] := gi_one (mb_4 _ (List.mem_of_getElem? (i := 153) rfl)) (by decide +kernel)
set_option maxRecDepth 1000000 in
theorem gw_557 : GoodIn lw_tbl [(.code yX6_has cX6_has 3 (some .boolean) : Cond)] := gi_one (mb_4 _ (List.mem_of_getElem? (i := 154) rfl)) (by decide +kernel)
set_option maxRecDepth 1000000 in
theorem gw_560 : GoodIn lw_tbl [(.classLink RX11 352 "java/lang/IndexOutOfBoundsException" : Cond)] := gi_one (mb_4 _ (List.mem_of_getElem? (i := 155) rfl)) (by decide +kernel)
set_option maxRecDepth 1000000 in
theorem gw_565 : GoodIn lw_tbl [(.instanceMethod yX6_surface : Cond)] := gi_one (mb_4 _ (List.mem_of_getElem? (i := 174) rfl)) (by decide +kernel)
set_option maxRecDepth 1000000 in
theorem gw_553 : GoodIn lw_tbl [(.code yX6_surface cX6_surface 2 (some .int) : Cond)] := gi_one (mb_4 _ (List.mem_of_getElem? (i := 175) rfl)) (by decide +kernel)
set_option maxRecDepth 1000000 in
theorem gw_584 : GoodIn lw_tbl [(.methodLink RL 149 yL_drain : Cond)] := gi_one (mb_4 _ (List.mem_of_getElem? (i := 176) rfl)) (by decide +kernel)
set_option maxRecDepth 1000000 in
theorem gw_583 : GoodIn lw_tbl [(.static yL_drain : Cond)] := gi_one (mb_4 _ (List.mem_of_getElem? (i := 177) rfl)) (by decide +kernel)
set_option maxRecDepth 1000000 in
theorem gw_595 : GoodIn lw_tbl [(.codeWith yL_drain cL_drain 5 (some .int) [(0, 10, 13, 34), (0, 10, 17, 13)] : Cond)] := gi_one (mb_4 _ (List.mem_of_getElem? (i := 178) rfl)) (by decide +kernel)
set_option maxRecDepth 1000000 in
theorem gw_596 : GoodIn lw_tbl [(.classLink RL 34 "java/util/NoSuchElementException" : Cond)] := gi_one (mb_4 _ (List.mem_of_getElem? (i := 179) rfl)) (by decide +kernel)
set_option maxRecDepth 1000000 in
theorem gw_587 : GoodIn lw_tbl [(.methodLink RL 30 yX11_drain : Cond)] := gi_one (mb_4 _ (List.mem_of_getElem? (i := 180) rfl)) (by decide +kernel)
set_option maxRecDepth 1000000 in
theorem gw_586 : GoodIn lw_tbl [(.instanceMethod yX11_drain : Cond)] := gi_one (mb_4 _ (List.mem_of_getElem? (i := 181) rfl)) (by decide +kernel)
set_option maxRecDepth 1000000 in
theorem gw_585 : GoodIn lw_tbl [(.selects RX11 yX11_drain yX11_drain : Cond)] := gi_one (mb_4 _ (List.mem_of_getElem? (i := 182) rfl)) (by decide +kernel)
set_option maxRecDepth 1000000 in
theorem gw_594 : GoodIn lw_tbl [(.code yX11_drain cX11_drain 3 (some .int) : Cond)] := gi_one (mb_4 _ (List.mem_of_getElem? (i := 183) rfl)) (by decide +kernel)
set_option maxRecDepth 1000000 in
theorem gw_590 : GoodIn lw_tbl [(.methodLink RX11 177 yX11_needElement : Cond)] := gi_one (mb_4 _ (List.mem_of_getElem? (i := 184) rfl)) (by decide +kernel)
set_option maxRecDepth 1000000 in
theorem gw_589 : GoodIn lw_tbl [(.instanceMethod yX11_needElement : Cond)] := gi_one (mb_4 _ (List.mem_of_getElem? (i := 186) rfl)) (by decide +kernel)
set_option maxRecDepth 1000000 in
theorem gw_591 : GoodIn lw_tbl [(.code yX11_needElement cX11_needElement 2 none : Cond)] := gi_one (mb_4 _ (List.mem_of_getElem? (i := 187) rfl)) (by decide +kernel)
set_option maxRecDepth 1000000 in
theorem gw_593 : GoodIn lw_tbl [(.classLink RX11 359 "java/util/NoSuchElementException" : Cond)] := gi_one (mb_4 _ (List.mem_of_getElem? (i := 188) rfl)) (by decide +kernel)
set_option maxRecDepth 1000000 in
theorem gw_611 : GoodIn lw_tbl [(.methodLink RL 153 yL_leaves : Cond)] := gi_one (mb_4 _ (List.mem_of_getElem? (i := 204) rfl)) (by decide +kernel)
set_option maxRecDepth 1000000 in
theorem gw_610 : GoodIn lw_tbl [(.static yL_leaves : Cond)] := gi_one (mb_4 _ (List.mem_of_getElem? (i := 205) rfl)) (by decide +kernel)
set_option maxRecDepth 1000000 in
theorem gw_616 : GoodIn lw_tbl [(.codeWith yL_leaves cL_leaves 5 (some .int) [(0, 10, 13, 34), (0, 10, 17, 13)] : Cond)] := gi_one (mb_4 _ (List.mem_of_getElem? (i := 206) rfl)) (by decide +kernel)
set_option maxRecDepth 1000000 in
theorem gw_614 : GoodIn lw_tbl [(.methodLink RL 36 yX11_leaves : Cond)] := gi_one (mb_4 _ (List.mem_of_getElem? (i := 207) rfl)) (by decide +kernel)
set_option maxRecDepth 1000000 in
theorem gw_613 : GoodIn lw_tbl [(.instanceMethod yX11_leaves : Cond)] := gi_one (mb_4 _ (List.mem_of_getElem? (i := 208) rfl)) (by decide +kernel)
set_option maxRecDepth 1000000 in
theorem gw_612 : GoodIn lw_tbl [(.selects RX11 yX11_leaves yX11_leaves : Cond)] := gi_one (mb_4 _ (List.mem_of_getElem? (i := 209) rfl)) (by decide +kernel)
set_option maxRecDepth 1000000 in
theorem gw_615 : GoodIn lw_tbl [(.code yX11_leaves cX11_leaves 5 (some .int) : Cond)] := gi_one (mb_4 _ (List.mem_of_getElem? (i := 210) rfl)) (by decide +kernel)
set_option maxRecDepth 1000000 in
theorem gw_622 : GoodIn lw_tbl [(.methodLink RL 156 yL_person : Cond)] := gi_one (mb_4 _ (List.mem_of_getElem? (i := 211) rfl)) (by decide +kernel)
set_option maxRecDepth 1000000 in
theorem gw_621 : GoodIn lw_tbl [(.static yL_person : Cond)] := gi_one (mb_4 _ (List.mem_of_getElem? (i := 212) rfl)) (by decide +kernel)
set_option maxRecDepth 1000000 in
theorem gw_627 : GoodIn lw_tbl [(.codeWith yL_person cL_person 5 (some .int) [(0, 10, 13, 34), (0, 10, 17, 13)] : Cond)] := gi_one (mb_4 _ (List.mem_of_getElem? (i := 213) rfl)) (by decide +kernel)
set_option maxRecDepth 1000000 in
theorem gw_625 : GoodIn lw_tbl [(.methodLink RL 39 yX11_person : Cond)] := gi_one (mb_4 _ (List.mem_of_getElem? (i := 214) rfl)) (by decide +kernel)
set_option maxRecDepth 1000000 in
theorem gw_624 : GoodIn lw_tbl [(.instanceMethod yX11_person : Cond)] := gi_one (mb_4 _ (List.mem_of_getElem? (i := 215) rfl)) (by decide +kernel)
set_option maxRecDepth 1000000 in
theorem gw_623 : GoodIn lw_tbl [(.selects RX11 yX11_person yX11_person : Cond)] := gi_one (mb_4 _ (List.mem_of_getElem? (i := 216) rfl)) (by decide +kernel)
set_option maxRecDepth 1000000 in
theorem gw_626 : GoodIn lw_tbl [(.code yX11_person cX11_person 3 (some .int) : Cond)] := gi_one (mb_4 _ (List.mem_of_getElem? (i := 217) rfl)) (by decide +kernel)
set_option maxRecDepth 1000000 in
theorem gw_633 : GoodIn lw_tbl [(.methodLink RL 159 yL_work : Cond)] := gi_one (mb_4 _ (List.mem_of_getElem? (i := 218) rfl)) (by decide +kernel)
set_option maxRecDepth 1000000 in
theorem gw_632 : GoodIn lw_tbl [(.static yL_work : Cond)] := gi_one (mb_4 _ (List.mem_of_getElem? (i := 219) rfl)) (by decide +kernel)
set_option maxRecDepth 1000000 in
theorem gw_638 : GoodIn lw_tbl [(.codeWith yL_work cL_work 5 (some .int) [(0, 10, 13, 34), (0, 10, 17, 13)] : Cond)] := gi_one (mb_4 _ (List.mem_of_getElem? (i := 220) rfl)) (by decide +kernel)
set_option maxRecDepth 1000000 in
theorem gw_636 : GoodIn lw_tbl [(.methodLink RL 42 yX11_work : Cond)] := gi_one (mb_4 _ (List.mem_of_getElem? (i := 221) rfl)) (by decide +kernel)
set_option maxRecDepth 1000000 in
theorem gw_635 : GoodIn lw_tbl [(.instanceMethod yX11_work : Cond)] := gi_one (mb_4 _ (List.mem_of_getElem? (i := 222) rfl)) (by decide +kernel)
set_option maxRecDepth 1000000 in
theorem gw_634 : GoodIn lw_tbl [(.selects RX11 yX11_work yX11_work : Cond)] := gi_one (mb_4 _ (List.mem_of_getElem? (i := 223) rfl)) (by decide +kernel)
set_option maxRecDepth 1000000 in
theorem gw_637 : GoodIn lw_tbl [(.code yX11_work cX11_work 3 (some .int) : Cond)] := gi_one (mb_4 _ (List.mem_of_getElem? (i := 224) rfl)) (by decide +kernel)
set_option maxRecDepth 1000000 in
theorem gw_648 : GoodIn lw_tbl [(.methodLink RL 162 yL_does : Cond)] := gi_one (mb_4 _ (List.mem_of_getElem? (i := 225) rfl)) (by decide +kernel)
set_option maxRecDepth 1000000 in
theorem gw_647 : GoodIn lw_tbl [(.static yL_does : Cond)] := gi_one (mb_4 _ (List.mem_of_getElem? (i := 226) rfl)) (by decide +kernel)
set_option maxRecDepth 1000000 in
theorem gw_664 : GoodIn lw_tbl [(.codeWith yL_does cL_does 4 (some .int) [(0, 9, 12, 34)] : Cond)] := gi_one (mb_4 _ (List.mem_of_getElem? (i := 227) rfl)) (by decide +kernel)
set_option maxRecDepth 1000000 in
theorem gw_651 : GoodIn lw_tbl [(.methodLink RL 45 yX11_does : Cond)] := gi_one (mb_4 _ (List.mem_of_getElem? (i := 228) rfl)) (by decide +kernel)
set_option maxRecDepth 1000000 in
theorem gw_650 : GoodIn lw_tbl [(.instanceMethod yX11_does : Cond)] := gi_one (mb_4 _ (List.mem_of_getElem? (i := 229) rfl)) (by decide +kernel)
set_option maxRecDepth 1000000 in
theorem gw_649 : GoodIn lw_tbl [(.selects RX11 yX11_does yX11_does : Cond)] := gi_one (mb_4 _ (List.mem_of_getElem? (i := 230) rfl)) (by decide +kernel)
set_option maxRecDepth 1000000 in
theorem gw_661 : GoodIn lw_tbl [(.code yX11_does cX11_does 2 (some .int) : Cond)] := gi_one (mb_4 _ (List.mem_of_getElem? (i := 231) rfl)) (by decide +kernel)
set_option maxRecDepth 1000000 in
theorem gw_663 : GoodIn lw_tbl [(.instanceMethod yX6_doWork : Cond)] := gi_one (mb_4 _ (List.mem_of_getElem? (i := 234) rfl)) (by decide +kernel)
set_option maxRecDepth 1000000 in
theorem gw_660 : GoodIn lw_tbl [(.code yX6_doWork cX6_doWork 6 (some .boolean) : Cond)] := gi_one (mb_4 _ (List.mem_of_getElem? (i := 235) rfl)) (by decide +kernel)
set_option maxRecDepth 1000000 in
theorem gw_659 : GoodIn lw_tbl [(.methodLink RX6 88 yX6_index : Cond)] := gi_one (mb_4 _ (List.mem_of_getElem? (i := 236) rfl)) (by decide +kernel)
set_option maxRecDepth 1000000 in
theorem gw_655 : GoodIn lw_tbl [(.methodLink RX6 92 yX6_changeHeight : Cond)] := gi_one (mb_4 _ (List.mem_of_getElem? (i := 237) rfl)) (by decide +kernel)
set_option maxRecDepth 1000000 in
theorem gw_654 : GoodIn lw_tbl [(.instanceMethod yX6_changeHeight : Cond)] := gi_one (mb_4 _ (List.mem_of_getElem? (i := 239) rfl)) (by decide +kernel)
set_option maxRecDepth 1000000 in
theorem gw_657 : GoodIn lw_tbl [(.code yX6_changeHeight cX6_changeHeight 3 none : Cond)] := gi_one (mb_5 _ (List.mem_of_getElem? (i := 0) rfl)) (by decide +kernel)
set_option maxRecDepth 1000000 in
theorem gw_658 : GoodIn lw_tbl [(.static yX11_held : Cond)] := gi_one (mb_5 _ (List.mem_of_getElem? (i := 2) rfl)) (by decide +kernel)
set_option maxRecDepth 1000000 in
theorem gw_656 : GoodIn lw_tbl [(.code yX11_held cX11_held 4 (some .int) : Cond)] := gi_one (mb_5 _ (List.mem_of_getElem? (i := 3) rfl)) (by decide +kernel)
set_option maxRecDepth 1000000 in
theorem gw_652 : GoodIn lw_tbl [(.methodLink RX6 96 yX6_addDrain : Cond)] := gi_one (mb_5 _ (List.mem_of_getElem? (i := 4) rfl)) (by decide +kernel)
set_option maxRecDepth 1000000 in
theorem gw_674 : GoodIn lw_tbl [(.methodLink RL 165 yL_minutes : Cond)] := gi_one (mb_5 _ (List.mem_of_getElem? (i := 5) rfl)) (by decide +kernel)
set_option maxRecDepth 1000000 in
theorem gw_673 : GoodIn lw_tbl [(.static yL_minutes : Cond)] := gi_one (mb_5 _ (List.mem_of_getElem? (i := 6) rfl)) (by decide +kernel)
set_option maxRecDepth 1000000 in
theorem gw_716 : GoodIn lw_tbl [(.codeWith yL_minutes cL_minutes 5 (some .int) [(0, 10, 13, 13), (0, 10, 17, 51)] : Cond)] := gi_one (mb_5 _ (List.mem_of_getElem? (i := 7) rfl)) (by decide +kernel)
set_option maxRecDepth 1000000 in
theorem gw_717 : GoodIn lw_tbl [(.classLink RL 51 "java/lang/IllegalStateException" : Cond)] := gi_one (mb_5 _ (List.mem_of_getElem? (i := 8) rfl)) (by decide +kernel)
set_option maxRecDepth 1000000 in
theorem gw_677 : GoodIn lw_tbl [(.methodLink RL 48 yX11_minutes : Cond)] := gi_one (mb_5 _ (List.mem_of_getElem? (i := 9) rfl)) (by decide +kernel)
set_option maxRecDepth 1000000 in
theorem gw_676 : GoodIn lw_tbl [(.instanceMethod yX11_minutes : Cond)] := gi_one (mb_5 _ (List.mem_of_getElem? (i := 10) rfl)) (by decide +kernel)
set_option maxRecDepth 1000000 in
theorem gw_675 : GoodIn lw_tbl [(.selects RX11 yX11_minutes yX11_minutes : Cond)] := gi_one (mb_5 _ (List.mem_of_getElem? (i := 11) rfl)) (by decide +kernel)
set_option maxRecDepth 1000000 in
theorem gw_709 : GoodIn lw_tbl [(.code yX11_minutes cX11_minutes 3 (some .int) : Cond)] := gi_one (mb_5 _ (List.mem_of_getElem? (i := 12) rfl)) (by decide +kernel)
set_option maxRecDepth 1000000 in
theorem gw_715 : GoodIn lw_tbl [(.instanceMethod yX6_isTold : Cond)] := gi_one (mb_5 _ (List.mem_of_getElem? (i := 15) rfl)) (by decide +kernel)
set_option maxRecDepth 1000000 in
theorem gw_708 : GoodIn lw_tbl [(.code yX6_isTold cX6_isTold 1 (some .boolean) : Cond)] := gi_one (mb_5 _ (List.mem_of_getElem? (i := 16) rfl)) (by decide +kernel)
set_option maxRecDepth 1000000 in
theorem gw_713 : GoodIn lw_tbl [(.instanceMethod yX6_hasTime : Cond)] := gi_one (mb_5 _ (List.mem_of_getElem? (i := 19) rfl)) (by decide +kernel)
set_option maxRecDepth 1000000 in
theorem gw_701 : GoodIn lw_tbl [(.code yX6_hasTime cX6_hasTime 1 (some .boolean) : Cond)] := gi_one (mb_5 _ (List.mem_of_getElem? (i := 20) rfl)) (by decide +kernel)
set_option maxRecDepth 1000000 in
theorem gw_704 : GoodIn lw_tbl [(.methodLink RX11 202 yX11_needState : Cond)] := gi_one (mb_5 _ (List.mem_of_getElem? (i := 21) rfl)) (by decide +kernel)
set_option maxRecDepth 1000000 in
theorem gw_703 : GoodIn lw_tbl [(.instanceMethod yX11_needState : Cond)] := gi_one (mb_5 _ (List.mem_of_getElem? (i := 23) rfl)) (by decide +kernel)
set_option maxRecDepth 1000000 in
theorem gw_705 : GoodIn lw_tbl [(.code yX11_needState cX11_needState 2 none : Cond)] := gi_one (mb_5 _ (List.mem_of_getElem? (i := 24) rfl)) (by decide +kernel)
set_option maxRecDepth 1000000 in
theorem gw_707 : GoodIn lw_tbl [(.classLink RX11 369 "java/lang/IllegalStateException" : Cond)] := gi_one (mb_5 _ (List.mem_of_getElem? (i := 25) rfl)) (by decide +kernel)
set_option maxRecDepth 1000000 in
theorem gw_711 : GoodIn lw_tbl [(.instanceMethod yX6_passMinutes : Cond)] := gi_one (mb_5 _ (List.mem_of_getElem? (i := 43) rfl)) (by decide +kernel)
set_option maxRecDepth 1000000 in
theorem gw_700 : GoodIn lw_tbl [(.code yX6_passMinutes cX6_passMinutes 5 (some .int) : Cond)] := gi_one (mb_5 _ (List.mem_of_getElem? (i := 44) rfl)) (by decide +kernel)
set_option maxRecDepth 1000000 in
theorem gw_680 : GoodIn lw_tbl [(.methodLink RX6 115 yX6_passMinute : Cond)] := gi_one (mb_5 _ (List.mem_of_getElem? (i := 46) rfl)) (by decide +kernel)
set_option maxRecDepth 1000000 in
theorem gw_679 : GoodIn lw_tbl [(.instanceMethod yX6_passMinute : Cond)] := gi_one (mb_5 _ (List.mem_of_getElem? (i := 48) rfl)) (by decide +kernel)
set_option maxRecDepth 1000000 in
theorem gw_699 : GoodIn lw_tbl [(.code yX6_passMinute cX6_passMinute 4 none : Cond)] := gi_one (mb_5 _ (List.mem_of_getElem? (i := 49) rfl)) (by decide +kernel)
set_option maxRecDepth 1000000 in
theorem gw_698 : GoodIn lw_tbl [(.methodLink RX6 80 yX6_cells : Cond)] := gi_one (mb_5 _ (List.mem_of_getElem? (i := 50) rfl)) (by decide +kernel)
set_option maxRecDepth 1000000 in
theorem gw_688 : GoodIn lw_tbl [(.methodLink RX6 125 yX6_runRounds : Cond)] := gi_one (mb_5 _ (List.mem_of_getElem? (i := 51) rfl)) (by decide +kernel)
set_option maxRecDepth 1000000 in
theorem gw_687 : GoodIn lw_tbl [(.instanceMethod yX6_runRounds : Cond)] := gi_one (mb_5 _ (List.mem_of_getElem? (i := 53) rfl)) (by decide +kernel)
set_option maxRecDepth 1000000 in
theorem gw_697 : GoodIn lw_tbl [(.code yX6_runRounds cX6_runRounds 4 none : Cond)] := gi_one (mb_5 _ (List.mem_of_getElem? (i := 54) rfl)) (by decide +kernel)
set_option maxRecDepth 1000000 in
theorem gw_691 : GoodIn lw_tbl [(.methodLink RX6 131 yX6_runRound : Cond)] := gi_one (mb_5 _ (List.mem_of_getElem? (i := 55) rfl)) (by decide +kernel)
set_option maxRecDepth 1000000 in
theorem gw_690 : GoodIn lw_tbl [(.instanceMethod yX6_runRound : Cond)] := gi_one (mb_5 _ (List.mem_of_getElem? (i := 57) rfl)) (by decide +kernel)
set_option maxRecDepth 1000000 in
theorem gw_696 : GoodIn lw_tbl [(.code yX6_runRound cX6_runRound 5 (some .boolean) : Cond)] := gi_one (mb_5 _ (List.mem_of_getElem? (i := 58) rfl)) (by decide +kernel)
set_option maxRecDepth 1000000 in
theorem gw_694 : GoodIn lw_tbl [(.methodLink RX6 135 yX6_runFrom : Cond)] := gi_one (mb_5 _ (List.mem_of_getElem? (i := 59) rfl)) (by decide +kernel)
set_option maxRecDepth 1000000 in
theorem gw_693 : GoodIn lw_tbl [(.instanceMethod yX6_runFrom : Cond)] := gi_one (mb_5 _ (List.mem_of_getElem? (i := 61) rfl)) (by decide +kernel)
set_option maxRecDepth 1000000 in
theorem gw_695 : GoodIn lw_tbl [(.code yX6_runFrom cX6_runFrom 9 (some .boolean) : Cond)] := gi_one (mb_5 _ (List.mem_of_getElem? (i := 62) rfl)) (by decide +kernel)
set_option maxRecDepth 1000000 in
theorem gw_683 : GoodIn lw_tbl [(.methodLink RX6 128 yX6_takeByDrain : Cond)] := gi_one (mb_5 _ (List.mem_of_getElem? (i := 63) rfl)) (by decide +kernel)
set_option maxRecDepth 1000000 in
theorem gw_682 : GoodIn lw_tbl [(.instanceMethod yX6_takeByDrain : Cond)] := gi_one (mb_5 _ (List.mem_of_getElem? (i := 65) rfl)) (by decide +kernel)
set_option maxRecDepth 1000000 in
theorem gw_684 : GoodIn lw_tbl [(.code yX6_takeByDrain cX6_takeByDrain 5 none : Cond)] := gi_one (mb_5 _ (List.mem_of_getElem? (i := 66) rfl)) (by decide +kernel)
set_option maxRecDepth 1000000 in
theorem gw_739 : GoodIn lw_tbl [(.methodLink RL 168 yL_shower : Cond)] := gi_one (mb_5 _ (List.mem_of_getElem? (i := 67) rfl)) (by decide +kernel)
set_option maxRecDepth 1000000 in
theorem gw_738 : GoodIn lw_tbl [(.static yL_shower : Cond)] := gi_one (mb_5 _ (List.mem_of_getElem? (i := 68) rfl)) (by decide +kernel)
set_option maxRecDepth 1000000 in
theorem gw_751 : GoodIn lw_tbl [(.codeWith yL_shower cL_shower 4 (some .int) [(0, 9, 12, 34), (0, 9, 15, 51)] : Cond)] := gi_one (mb_5 _ (List.mem_of_getElem? (i := 69) rfl)) (by decide +kernel)
set_option maxRecDepth 1000000 in
theorem gw_742 : GoodIn lw_tbl [(.methodLink RL 53 yX11_shower : Cond)] := gi_one (mb_5 _ (List.mem_of_getElem? (i := 70) rfl)) (by decide +kernel)
set_option maxRecDepth 1000000 in
theorem gw_741 : GoodIn lw_tbl [(.instanceMethod yX11_shower : Cond)] := gi_one (mb_5 _ (List.mem_of_getElem? (i := 71) rfl)) (by decide +kernel)
set_option maxRecDepth 1000000 in
theorem gw_740 : GoodIn lw_tbl [(.selects RX11 yX11_shower yX11_shower : Cond)] := gi_one (mb_5 _ (List.mem_of_getElem? (i := 72) rfl)) (by decide +kernel)
set_option maxRecDepth 1000000 in
theorem gw_748 : GoodIn lw_tbl [(.code yX11_shower cX11_shower 2 (some .int) : Cond)] := gi_one (mb_5 _ (List.mem_of_getElem? (i := 73) rfl)) (by decide +kernel)
set_option maxRecDepth 1000000 in
theorem gw_746 : GoodIn lw_tbl [(.methodLink RX11 208 yX11_needRain : Cond)] := gi_one (mb_5 _ (List.mem_of_getElem? (i := 74) rfl)) (by decide +kernel)
set_option maxRecDepth 1000000 in
theorem gw_745 : GoodIn lw_tbl [(.instanceMethod yX11_needRain : Cond)] := gi_one (mb_5 _ (List.mem_of_getElem? (i := 76) rfl)) (by decide +kernel)
set_option maxRecDepth 1000000 in
theorem gw_747 : GoodIn lw_tbl [(.code yX11_needRain cX11_needRain 2 none : Cond)] := gi_one (mb_5 _ (List.mem_of_getElem? (i := 77) rfl)) (by decide +kernel)
set_option maxRecDepth 1000000 in
theorem gw_750 : GoodIn lw_tbl [(.instanceMethod yX6_passRain : Cond)] := gi_one (mb_5 _ (List.mem_of_getElem? (i := 80) rfl)) (by decide +kernel)
set_option maxRecDepth 1000000 in
theorem gw_743 : GoodIn lw_tbl [(.code yX6_passRain cX6_passRain 4 (some .int) : Cond)] := gi_one (mb_5 _ (List.mem_of_getElem? (i := 81) rfl)) (by decide +kernel)
set_option maxRecDepth 1000000 in
theorem gw_767 : GoodIn lw_tbl [(.methodLink RL 171 yL_sums : Cond)] := gi_one (mb_5 _ (List.mem_of_getElem? (i := 82) rfl)) (by decide +kernel)
set_option maxRecDepth 1000000 in
theorem gw_766 : GoodIn lw_tbl [(.static yL_sums : Cond)] := gi_one (mb_5 _ (List.mem_of_getElem? (i := 83) rfl)) (by decide +kernel)
set_option maxRecDepth 1000000 in
theorem gw_775 : GoodIn lw_tbl [(.codeWith yL_sums cL_sums 4 (some .int) [(0, 9, 12, 13)] : Cond)] := gi_one (mb_5 _ (List.mem_of_getElem? (i := 84) rfl)) (by decide +kernel)
set_option maxRecDepth 1000000 in
theorem gw_770 : GoodIn lw_tbl [(.methodLink RL 56 yX11_sums : Cond)] := gi_one (mb_5 _ (List.mem_of_getElem? (i := 85) rfl)) (by decide +kernel)
set_option maxRecDepth 1000000 in
theorem gw_769 : GoodIn lw_tbl [(.instanceMethod yX11_sums : Cond)] := gi_one (mb_5 _ (List.mem_of_getElem? (i := 86) rfl)) (by decide +kernel)
set_option maxRecDepth 1000000 in
theorem gw_768 : GoodIn lw_tbl [(.selects RX11 yX11_sums yX11_sums : Cond)] := gi_one (mb_5 _ (List.mem_of_getElem? (i := 87) rfl)) (by decide +kernel)
set_option maxRecDepth 1000000 in
theorem gw_772 : GoodIn lw_tbl [(.code yX11_sums cX11_sums 2 (some .int) : Cond)] := gi_one (mb_5 _ (List.mem_of_getElem? (i := 88) rfl)) (by decide +kernel)
set_option maxRecDepth 1000000 in
theorem gw_774 : GoodIn lw_tbl [(.instanceMethod yX6_standing : Cond)] := gi_one (mb_5 _ (List.mem_of_getElem? (i := 91) rfl)) (by decide +kernel)
set_option maxRecDepth 1000000 in
theorem gw_771 : GoodIn lw_tbl [(.code yX6_standing cX6_standing 3 (some .int) : Cond)] := gi_one (mb_5 _ (List.mem_of_getElem? (i := 92) rfl)) (by decide +kernel)
set_option maxRecDepth 1000000 in
theorem gw_785 : GoodIn lw_tbl [(.methodLink RL 174 yL_says : Cond)] := gi_one (mb_5 _ (List.mem_of_getElem? (i := 93) rfl)) (by decide +kernel)
set_option maxRecDepth 1000000 in
theorem gw_784 : GoodIn lw_tbl [(.static yL_says : Cond)] := gi_one (mb_5 _ (List.mem_of_getElem? (i := 94) rfl)) (by decide +kernel)
set_option maxRecDepth 1000000 in
theorem gw_802 : GoodIn lw_tbl [(.codeWith yL_says cL_says 12 (some .int) [(0, 24, 27, 34), (0, 24, 31, 13)] : Cond)] := gi_one (mb_5 _ (List.mem_of_getElem? (i := 95) rfl)) (by decide +kernel)
set_option maxRecDepth 1000000 in
theorem gw_788 : GoodIn lw_tbl [(.methodLink RL 59 yX11_says : Cond)] := gi_one (mb_5 _ (List.mem_of_getElem? (i := 96) rfl)) (by decide +kernel)
set_option maxRecDepth 1000000 in
theorem gw_787 : GoodIn lw_tbl [(.instanceMethod yX11_says : Cond)] := gi_one (mb_5 _ (List.mem_of_getElem? (i := 97) rfl)) (by decide +kernel)
set_option maxRecDepth 1000000 in
theorem gw_786 : GoodIn lw_tbl [(.selects RX11 yX11_says yX11_says : Cond)] := gi_one (mb_5 _ (List.mem_of_getElem? (i := 98) rfl)) (by decide +kernel)
set_option maxRecDepth 1000000 in
theorem gw_798 : GoodIn lw_tbl [(.code yX11_says cX11_says 11 (some .int) : Cond)] := gi_one (mb_5 _ (List.mem_of_getElem? (i := 99) rfl)) (by decide +kernel)
set_option maxRecDepth 1000000 in
theorem gw_796 : GoodIn lw_tbl [(.methodLink RX11 227 yX11_needLaw : Cond)] := gi_one (mb_5 _ (List.mem_of_getElem? (i := 100) rfl)) (by decide +kernel)
set_option maxRecDepth 1000000 in
theorem gw_795 : GoodIn lw_tbl [(.instanceMethod yX11_needLaw : Cond)] := gi_one (mb_5 _ (List.mem_of_getElem? (i := 102) rfl)) (by decide +kernel)
set_option maxRecDepth 1000000 in
theorem gw_797 : GoodIn lw_tbl [(.code yX11_needLaw cX11_needLaw 2 none : Cond)] := gi_one (mb_5 _ (List.mem_of_getElem? (i := 103) rfl)) (by decide +kernel)
set_option maxRecDepth 1000000 in
theorem gw_800 : GoodIn lw_tbl [(.instanceMethod yX1_value : Cond)] := gi_one (mb_5 _ (List.mem_of_getElem? (i := 106) rfl)) (by decide +kernel)
set_option maxRecDepth 1000000 in
theorem gw_792 : GoodIn lw_tbl [(.code yX1_value cX1_value 8 (some .int) : Cond)] := gi_one (mb_5 _ (List.mem_of_getElem? (i := 107) rfl)) (by decide +kernel)
set_option maxRecDepth 1000000 in
theorem gw_790 : GoodIn lw_tbl [(.methodLink RX1 33 yX1_joined : Cond)] := gi_one (mb_5 _ (List.mem_of_getElem? (i := 108) rfl)) (by decide +kernel)
set_option maxRecDepth 1000000 in
theorem gw_789 : GoodIn lw_tbl [(.static yX1_joined : Cond)] := gi_one (mb_5 _ (List.mem_of_getElem? (i := 109) rfl)) (by decide +kernel)
set_option maxRecDepth 1000000 in
theorem gw_791 : GoodIn lw_tbl [(.code yX1_joined cX1_joined 3 (some .int) : Cond)] := gi_one (mb_5 _ (List.mem_of_getElem? (i := 110) rfl)) (by decide +kernel)
set_option maxRecDepth 1000000 in
theorem gw_822 : GoodIn lw_tbl [(.methodLink RL 178 yL_car : Cond)] := gi_one (mb_5 _ (List.mem_of_getElem? (i := 111) rfl)) (by decide +kernel)
set_option maxRecDepth 1000000 in
theorem gw_821 : GoodIn lw_tbl [(.static yL_car : Cond)] := gi_one (mb_5 _ (List.mem_of_getElem? (i := 112) rfl)) (by decide +kernel)
set_option maxRecDepth 1000000 in
theorem gw_866 : GoodIn lw_tbl [(.codeWith yL_car cL_car 8 (some .int) [(0, 16, 19, 34), (0, 16, 23, 13), (0, 16, 27, 51)] : Cond)] := gi_one (mb_5 _ (List.mem_of_getElem? (i := 113) rfl)) (by decide +kernel)
set_option maxRecDepth 1000000 in
theorem gw_825 : GoodIn lw_tbl [(.methodLink RL 63 yX11_car : Cond)] := gi_one (mb_5 _ (List.mem_of_getElem? (i := 114) rfl)) (by decide +kernel)
set_option maxRecDepth 1000000 in
theorem gw_824 : GoodIn lw_tbl [(.instanceMethod yX11_car : Cond)] := gi_one (mb_5 _ (List.mem_of_getElem? (i := 115) rfl)) (by decide +kernel)
set_option maxRecDepth 1000000 in
theorem gw_823 : GoodIn lw_tbl [(.selects RX11 yX11_car yX11_car : Cond)] := gi_one (mb_5 _ (List.mem_of_getElem? (i := 116) rfl)) (by decide +kernel)
set_option maxRecDepth 1000000 in
theorem gw_861 : GoodIn lw_tbl [(.code yX11_car cX11_car 6 (some .int) : Cond)] := gi_one (mb_5 _ (List.mem_of_getElem? (i := 117) rfl)) (by decide +kernel)
set_option maxRecDepth 1000000 in
theorem gw_859 : GoodIn lw_tbl [(.methodLink RX11 243 yX11_isCar : Cond)] := gi_one (mb_5 _ (List.mem_of_getElem? (i := 118) rfl)) (by decide +kernel)
set_option maxRecDepth 1000000 in
theorem gw_858 : GoodIn lw_tbl [(.instanceMethod yX11_isCar : Cond)] := gi_one (mb_5 _ (List.mem_of_getElem? (i := 120) rfl)) (by decide +kernel)
set_option maxRecDepth 1000000 in
theorem gw_860 : GoodIn lw_tbl [(.code yX11_isCar cX11_isCar 5 (some .boolean) : Cond)] := gi_one (mb_5 _ (List.mem_of_getElem? (i := 121) rfl)) (by decide +kernel)
set_option maxRecDepth 1000000 in
theorem gw_865 : GoodIn lw_tbl [(.instanceMethod yX0_become : Cond)] := gi_one (mb_5 _ (List.mem_of_getElem? (i := 124) rfl)) (by decide +kernel)
set_option maxRecDepth 1000000 in
theorem gw_856 : GoodIn lw_tbl [(.code yX0_become cX0_become 5 none : Cond)] := gi_one (mb_5 _ (List.mem_of_getElem? (i := 125) rfl)) (by decide +kernel)
set_option maxRecDepth 1000000 in
theorem gw_863 : GoodIn lw_tbl [(.instanceMethod yX0_drive : Cond)] := gi_one (mb_5 _ (List.mem_of_getElem? (i := 128) rfl)) (by decide +kernel)
set_option maxRecDepth 1000000 in
theorem gw_853 : GoodIn lw_tbl [(.code yX0_drive cX0_drive 7 (some .int) : Cond)] := gi_one (mb_5 _ (List.mem_of_getElem? (i := 129) rfl)) (by decide +kernel)
set_option maxRecDepth 1000000 in
theorem gw_839 : GoodIn lw_tbl [(.methodLink RX0 33 yX0_come : Cond)] := gi_one (mb_5 _ (List.mem_of_getElem? (i := 130) rfl)) (by decide +kernel)
set_option maxRecDepth 1000000 in
theorem gw_838 : GoodIn lw_tbl [(.instanceMethod yX0_come : Cond)] := gi_one (mb_5 _ (List.mem_of_getElem? (i := 132) rfl)) (by decide +kernel)
set_option maxRecDepth 1000000 in
theorem gw_845 : GoodIn lw_tbl [(.code yX0_come cX0_come 6 none : Cond)] := gi_one (mb_5 _ (List.mem_of_getElem? (i := 133) rfl)) (by decide +kernel)
set_option maxRecDepth 1000000 in
theorem gw_851 : GoodIn lw_tbl [(.instanceMethod yX6_peopleAt : Cond)] := gi_one (mb_5 _ (List.mem_of_getElem? (i := 136) rfl)) (by decide +kernel)
set_option maxRecDepth 1000000 in
theorem gw_844 : GoodIn lw_tbl [(.code yX6_peopleAt cX6_peopleAt 4 (some .int) : Cond)] := gi_one (mb_5 _ (List.mem_of_getElem? (i := 137) rfl)) (by decide +kernel)
set_option maxRecDepth 1000000 in
theorem gw_842 : GoodIn lw_tbl [(.methodLink RX0 62 yX0_see : Cond)] := gi_one (mb_5 _ (List.mem_of_getElem? (i := 138) rfl)) (by decide +kernel)
set_option maxRecDepth 1000000 in
theorem gw_841 : GoodIn lw_tbl [(.instanceMethod yX0_see : Cond)] := gi_one (mb_5 _ (List.mem_of_getElem? (i := 140) rfl)) (by decide +kernel)
set_option maxRecDepth 1000000 in
theorem gw_843 : GoodIn lw_tbl [(.code yX0_see cX0_see 4 none : Cond)] := gi_one (mb_5 _ (List.mem_of_getElem? (i := 141) rfl)) (by decide +kernel)
set_option maxRecDepth 1000000 in
theorem gw_855 : GoodIn lw_tbl [(.instanceMethod yX6_throwFrom : Cond)] := gi_one (mb_5 _ (List.mem_of_getElem? (i := 147) rfl)) (by decide +kernel)
set_option maxRecDepth 1000000 in
theorem gw_836 : GoodIn lw_tbl [(.code yX6_throwFrom cX6_throwFrom 5 none : Cond)] := gi_one (mb_5 _ (List.mem_of_getElem? (i := 148) rfl)) (by decide +kernel)
set_option maxRecDepth 1000000 in
theorem gw_829 : GoodIn lw_tbl [(.methodLink RX0 54 yX0_hit : Cond)] := gi_one (mb_5 _ (List.mem_of_getElem? (i := 149) rfl)) (by decide +kernel)
set_option maxRecDepth 1000000 in
theorem gw_828 : GoodIn lw_tbl [(.instanceMethod yX0_hit : Cond)] := gi_one (mb_5 _ (List.mem_of_getElem? (i := 151) rfl)) (by decide +kernel)
set_option maxRecDepth 1000000 in
theorem gw_831 : GoodIn lw_tbl [(.code yX0_hit cX0_hit 10 (some .int) : Cond)] := gi_one (mb_5 _ (List.mem_of_getElem? (i := 152) rfl)) (by decide +kernel)
set_option maxRecDepth 1000000 in
theorem gw_833 : GoodIn lw_tbl [(.instanceMethod yX6_isSheltered : Cond)] := gi_one (mb_5 _ (List.mem_of_getElem? (i := 155) rfl)) (by decide +kernel)
set_option maxRecDepth 1000000 in
theorem gw_830 : GoodIn lw_tbl [(.code yX6_isSheltered cX6_isSheltered 3 (some .boolean) : Cond)] := gi_one (mb_5 _ (List.mem_of_getElem? (i := 156) rfl)) (by decide +kernel)
set_option maxRecDepth 1000000 in
theorem gw_905 : GoodIn lw_tbl [(.methodLink RL 182 yL_traffic : Cond)] := gi_one (mb_5 _ (List.mem_of_getElem? (i := 158) rfl)) (by decide +kernel)
set_option maxRecDepth 1000000 in
theorem gw_904 : GoodIn lw_tbl [(.static yL_traffic : Cond)] := gi_one (mb_5 _ (List.mem_of_getElem? (i := 159) rfl)) (by decide +kernel)
set_option maxRecDepth 1000000 in
theorem gw_914 : GoodIn lw_tbl [(.codeWith yL_traffic cL_traffic 8 (some .int) [(0, 16, 19, 13)] : Cond)] := gi_one (mb_5 _ (List.mem_of_getElem? (i := 160) rfl)) (by decide +kernel)
set_option maxRecDepth 1000000 in
theorem gw_908 : GoodIn lw_tbl [(.methodLink RL 67 yX11_traffic : Cond)] := gi_one (mb_5 _ (List.mem_of_getElem? (i := 161) rfl)) (by decide +kernel)
set_option maxRecDepth 1000000 in
theorem gw_907 : GoodIn lw_tbl [(.instanceMethod yX11_traffic : Cond)] := gi_one (mb_5 _ (List.mem_of_getElem? (i := 162) rfl)) (by decide +kernel)
set_option maxRecDepth 1000000 in
theorem gw_906 : GoodIn lw_tbl [(.selects RX11 yX11_traffic yX11_traffic : Cond)] := gi_one (mb_5 _ (List.mem_of_getElem? (i := 163) rfl)) (by decide +kernel)
set_option maxRecDepth 1000000 in
theorem gw_911 : GoodIn lw_tbl [(.code yX11_traffic cX11_traffic 6 (some .int) : Cond)] := gi_one (mb_5 _ (List.mem_of_getElem? (i := 164) rfl)) (by decide +kernel)
set_option maxRecDepth 1000000 in
theorem gw_913 : GoodIn lw_tbl [(.instanceMethod yX4_addCar : Cond)] := gi_one (mb_5 _ (List.mem_of_getElem? (i := 167) rfl)) (by decide +kernel)
set_option maxRecDepth 1000000 in
theorem gw_909 : GoodIn lw_tbl [(.code yX4_addCar cX4_addCar 7 (some .int) : Cond)] := gi_one (mb_5 _ (List.mem_of_getElem? (i := 168) rfl)) (by decide +kernel)
set_option maxRecDepth 1000000 in
theorem gw_920 : GoodIn lw_tbl [(.methodLink RL 185 yL_pass : Cond)] := gi_one (mb_5 _ (List.mem_of_getElem? (i := 169) rfl)) (by decide +kernel)
set_option maxRecDepth 1000000 in
theorem gw_919 : GoodIn lw_tbl [(.static yL_pass : Cond)] := gi_one (mb_5 _ (List.mem_of_getElem? (i := 170) rfl)) (by decide +kernel)
set_option maxRecDepth 1000000 in
theorem gw_930 : GoodIn lw_tbl [(.codeWith yL_pass cL_pass 4 (some .int) [(0, 9, 12, 34), (0, 9, 15, 51)] : Cond)] := gi_one (mb_5 _ (List.mem_of_getElem? (i := 171) rfl)) (by decide +kernel)
set_option maxRecDepth 1000000 in
theorem gw_923 : GoodIn lw_tbl [(.methodLink RL 70 yX11_pass : Cond)] := gi_one (mb_5 _ (List.mem_of_getElem? (i := 172) rfl)) (by decide +kernel)
set_option maxRecDepth 1000000 in
theorem gw_922 : GoodIn lw_tbl [(.instanceMethod yX11_pass : Cond)] := gi_one (mb_5 _ (List.mem_of_getElem? (i := 173) rfl)) (by decide +kernel)
set_option maxRecDepth 1000000 in
theorem gw_921 : GoodIn lw_tbl [(.selects RX11 yX11_pass yX11_pass : Cond)] := gi_one (mb_5 _ (List.mem_of_getElem? (i := 174) rfl)) (by decide +kernel)
set_option maxRecDepth 1000000 in
theorem gw_926 : GoodIn lw_tbl [(.code yX11_pass cX11_pass 2 (some .int) : Cond)] := gi_one (mb_5 _ (List.mem_of_getElem? (i := 175) rfl)) (by decide +kernel)
set_option maxRecDepth 1000000 in
theorem gw_928 : GoodIn lw_tbl [(.instanceMethod yX9_passTraffic : Cond)] := gi_one (mb_5 _ (List.mem_of_getElem? (i := 178) rfl)) (by decide +kernel)
set_option maxRecDepth 1000000 in
theorem gw_924 : GoodIn lw_tbl [(.code yX9_passTraffic cX9_passTraffic 7 (some .int) : Cond)] := gi_one (mb_5 _ (List.mem_of_getElem? (i := 179) rfl)) (by decide +kernel)
set_option maxRecDepth 1000000 in
theorem gw_948 : GoodIn lw_tbl [(.methodLink RL 192 yL_deep : Cond)] := gi_one (mb_5 _ (List.mem_of_getElem? (i := 183) rfl)) (by decide +kernel)
set_option maxRecDepth 1000000 in
theorem gw_947 : GoodIn lw_tbl [(.static yL_deep : Cond)] := gi_one (mb_5 _ (List.mem_of_getElem? (i := 184) rfl)) (by decide +kernel)
set_option maxRecDepth 1000000 in
theorem gw_964 : GoodIn lw_tbl [(.codeWith yL_deep cL_deep 6 (some .int) [(0, 12, 15, 28), (0, 12, 19, 34), (0, 12, 23, 51)] : Cond)] := gi_one (mb_5 _ (List.mem_of_getElem? (i := 185) rfl)) (by decide +kernel)
set_option maxRecDepth 1000000 in
theorem gw_951 : GoodIn lw_tbl [(.methodLink RL 73 yX11_deep : Cond)] := gi_one (mb_5 _ (List.mem_of_getElem? (i := 186) rfl)) (by decide +kernel)
set_option maxRecDepth 1000000 in
theorem gw_950 : GoodIn lw_tbl [(.instanceMethod yX11_deep : Cond)] := gi_one (mb_5 _ (List.mem_of_getElem? (i := 187) rfl)) (by decide +kernel)
set_option maxRecDepth 1000000 in
theorem gw_949 : GoodIn lw_tbl [(.selects RX11 yX11_deep yX11_deep : Cond)] := gi_one (mb_5 _ (List.mem_of_getElem? (i := 188) rfl)) (by decide +kernel)
set_option maxRecDepth 1000000 in
theorem gw_961 : GoodIn lw_tbl [(.code yX11_deep cX11_deep 4 (some .int) : Cond)] := gi_one (mb_5 _ (List.mem_of_getElem? (i := 189) rfl)) (by decide +kernel)
set_option maxRecDepth 1000000 in
theorem gw_963 : GoodIn lw_tbl [(.instanceMethod yX9_depthBehind : Cond)] := gi_one (mb_5 _ (List.mem_of_getElem? (i := 192) rfl)) (by decide +kernel)
set_option maxRecDepth 1000000 in
theorem gw_957 : GoodIn lw_tbl [(.code yX9_depthBehind cX9_depthBehind 4 (some .int) : Cond)] := gi_one (mb_5 _ (List.mem_of_getElem? (i := 193) rfl)) (by decide +kernel)
set_option maxRecDepth 1000000 in
theorem gw_983 : GoodIn lw_tbl [(.methodLink RL 195 yL_when : Cond)] := gi_one (mb_5 _ (List.mem_of_getElem? (i := 196) rfl)) (by decide +kernel)
set_option maxRecDepth 1000000 in
theorem gw_982 : GoodIn lw_tbl [(.static yL_when : Cond)] := gi_one (mb_5 _ (List.mem_of_getElem? (i := 197) rfl)) (by decide +kernel)
set_option maxRecDepth 1000000 in
theorem gw_991 : GoodIn lw_tbl [(.codeWith yL_when cL_when 7 (some .int) [(0, 14, 17, 28), (0, 14, 21, 34), (0, 14, 25, 13), (0, 14, 29, 51)] : Cond)] := gi_one (mb_5 _ (List.mem_of_getElem? (i := 198) rfl)) (by decide +kernel)
set_option maxRecDepth 1000000 in
theorem gw_986 : GoodIn lw_tbl [(.methodLink RL 76 yX11_when : Cond)] := gi_one (mb_5 _ (List.mem_of_getElem? (i := 199) rfl)) (by decide +kernel)
set_option maxRecDepth 1000000 in
theorem gw_985 : GoodIn lw_tbl [(.instanceMethod yX11_when : Cond)] := gi_one (mb_5 _ (List.mem_of_getElem? (i := 200) rfl)) (by decide +kernel)
set_option maxRecDepth 1000000 in
theorem gw_984 : GoodIn lw_tbl [(.selects RX11 yX11_when yX11_when : Cond)] := gi_one (mb_5 _ (List.mem_of_getElem? (i := 201) rfl)) (by decide +kernel)
set_option maxRecDepth 1000000 in
theorem gw_988 : GoodIn lw_tbl [(.code yX11_when cX11_when 5 (some .int) : Cond)] := gi_one (mb_5 _ (List.mem_of_getElem? (i := 202) rfl)) (by decide +kernel)
set_option maxRecDepth 1000000 in
theorem gw_990 : GoodIn lw_tbl [(.instanceMethod yX9_minuteOf : Cond)] := gi_one (mb_5 _ (List.mem_of_getElem? (i := 205) rfl)) (by decide +kernel)
set_option maxRecDepth 1000000 in
theorem gw_987 : GoodIn lw_tbl [(.code yX9_minuteOf cX9_minuteOf 6 (some .int) : Cond)] := gi_one (mb_5 _ (List.mem_of_getElem? (i := 206) rfl)) (by decide +kernel)
set_option maxRecDepth 1000000 in
theorem gw_997 : GoodIn lw_tbl [(.methodLink RL 199 yL_blame : Cond)] := gi_one (mb_5 _ (List.mem_of_getElem? (i := 209) rfl)) (by decide +kernel)
set_option maxRecDepth 1000000 in
theorem gw_996 : GoodIn lw_tbl [(.static yL_blame : Cond)] := gi_one (mb_5 _ (List.mem_of_getElem? (i := 210) rfl)) (by decide +kernel)
set_option maxRecDepth 1000000 in
theorem gw_1010 : GoodIn lw_tbl [(.codeWith yL_blame cL_blame 7 (some .int) [(0, 14, 17, 28), (0, 14, 21, 34), (0, 14, 25, 13), (0, 14, 29, 51)] : Cond)] := gi_one (mb_5 _ (List.mem_of_getElem? (i := 211) rfl)) (by decide +kernel)
set_option maxRecDepth 1000000 in
theorem gw_1000 : GoodIn lw_tbl [(.methodLink RL 80 yX11_blame : Cond)] := gi_one (mb_5 _ (List.mem_of_getElem? (i := 212) rfl)) (by decide +kernel)
set_option maxRecDepth 1000000 in
theorem gw_999 : GoodIn lw_tbl [(.instanceMethod yX11_blame : Cond)] := gi_one (mb_5 _ (List.mem_of_getElem? (i := 213) rfl)) (by decide +kernel)
set_option maxRecDepth 1000000 in
theorem gw_998 : GoodIn lw_tbl [(.selects RX11 yX11_blame yX11_blame : Cond)] := gi_one (mb_5 _ (List.mem_of_getElem? (i := 214) rfl)) (by decide +kernel)
set_option maxRecDepth 1000000 in
theorem gw_1005 : GoodIn lw_tbl [(.code yX11_blame cX11_blame 5 (some .int) : Cond)] := gi_one (mb_5 _ (List.mem_of_getElem? (i := 215) rfl)) (by decide +kernel)
set_option maxRecDepth 1000000 in
theorem gw_1009 : GoodIn lw_tbl [(.instanceMethod yX9_findBlame : Cond)] := gi_one (mb_5 _ (List.mem_of_getElem? (i := 218) rfl)) (by decide +kernel)
set_option maxRecDepth 1000000 in
theorem gw_1004 : GoodIn lw_tbl [(.code yX9_findBlame cX9_findBlame 7 none : Cond)] := gi_one (mb_5 _ (List.mem_of_getElem? (i := 219) rfl)) (by decide +kernel)
set_option maxRecDepth 1000000 in
theorem gw_1007 : GoodIn lw_tbl [(.instanceMethod yX9_answer : Cond)] := gi_one (mb_5 _ (List.mem_of_getElem? (i := 222) rfl)) (by decide +kernel)
set_option maxRecDepth 1000000 in
theorem gw_1001 : GoodIn lw_tbl [(.code yX9_answer cX9_answer 2 (some .int) : Cond)] := gi_one (mb_5 _ (List.mem_of_getElem? (i := 223) rfl)) (by decide +kernel)
set_option maxRecDepth 1000000 in
theorem gw_1016 : GoodIn lw_tbl [(.methodLink RL 202 yL_look : Cond)] := gi_one (mb_5 _ (List.mem_of_getElem? (i := 224) rfl)) (by decide +kernel)
set_option maxRecDepth 1000000 in
theorem gw_1015 : GoodIn lw_tbl [(.static yL_look : Cond)] := gi_one (mb_5 _ (List.mem_of_getElem? (i := 225) rfl)) (by decide +kernel)
set_option maxRecDepth 1000000 in
theorem gw_1030 : GoodIn lw_tbl [(.codeWith yL_look cL_look 5 (some .int) [(0, 10, 13, 34), (0, 10, 17, 13), (0, 10, 21, 51)] : Cond)] := gi_one (mb_5 _ (List.mem_of_getElem? (i := 226) rfl)) (by decide +kernel)
set_option maxRecDepth 1000000 in
theorem gw_1019 : GoodIn lw_tbl [(.methodLink RL 83 yX11_look : Cond)] := gi_one (mb_5 _ (List.mem_of_getElem? (i := 227) rfl)) (by decide +kernel)
set_option maxRecDepth 1000000 in
theorem gw_1018 : GoodIn lw_tbl [(.instanceMethod yX11_look : Cond)] := gi_one (mb_5 _ (List.mem_of_getElem? (i := 228) rfl)) (by decide +kernel)
set_option maxRecDepth 1000000 in
theorem gw_1017 : GoodIn lw_tbl [(.selects RX11 yX11_look yX11_look : Cond)] := gi_one (mb_5 _ (List.mem_of_getElem? (i := 229) rfl)) (by decide +kernel)
set_option maxRecDepth 1000000 in
theorem gw_1027 : GoodIn lw_tbl [(.code yX11_look cX11_look 3 (some .int) : Cond)] := gi_one (mb_5 _ (List.mem_of_getElem? (i := 230) rfl)) (by decide +kernel)
set_option maxRecDepth 1000000 in
theorem gw_1029 : GoodIn lw_tbl [(.instanceMethod yX9_findLook : Cond)] := gi_one (mb_5 _ (List.mem_of_getElem? (i := 233) rfl)) (by decide +kernel)
set_option maxRecDepth 1000000 in
theorem gw_1025 : GoodIn lw_tbl [(.code yX9_findLook cX9_findLook 7 none : Cond)] := gi_one (mb_5 _ (List.mem_of_getElem? (i := 234) rfl)) (by decide +kernel)
set_option maxRecDepth 1000000 in
theorem gw_1026 : GoodIn lw_tbl [(.methodLink RX9 76 arraycopyName : Cond)] := gi_one (mb_5 _ (List.mem_of_getElem? (i := 236) rfl)) (by decide +kernel)
set_option maxRecDepth 1000000 in
theorem gw_1022 : GoodIn lw_tbl [(.methodLink RX9 92 yX9_kindsAt : Cond)] := gi_one (mb_5 _ (List.mem_of_getElem? (i := 238) rfl)) (by decide +kernel)
set_option maxRecDepth 1000000 in
theorem gw_1021 : GoodIn lw_tbl [(.instanceMethod yX9_kindsAt : Cond)] := gi_one (mb_6 _ (List.mem_of_getElem? (i := 0) rfl)) (by decide +kernel)
set_option maxRecDepth 1000000 in
theorem gw_1023 : GoodIn lw_tbl [(.code yX9_kindsAt cX9_kindsAt 8 (some .int) : Cond)] := gi_one (mb_6 _ (List.mem_of_getElem? (i := 1) rfl)) (by decide +kernel)
set_option maxRecDepth 1000000 in
theorem gw_1041 : GoodIn lw_tbl [(.methodLink RL 205 yL_stand : Cond)] := gi_one (mb_6 _ (List.mem_of_getElem? (i := 2) rfl)) (by decide +kernel)
set_option maxRecDepth 1000000 in
theorem gw_1040 : GoodIn lw_tbl [(.static yL_stand : Cond)] := gi_one (mb_6 _ (List.mem_of_getElem? (i := 3) rfl)) (by decide +kernel)
set_option maxRecDepth 1000000 in
theorem gw_1054 : GoodIn lw_tbl [(.codeWith yL_stand cL_stand 6 (some .int) [(0, 12, 15, 34), (0, 12, 19, 13), (0, 12, 23, 51)] : Cond)] := gi_one (mb_6 _ (List.mem_of_getElem? (i := 4) rfl)) (by decide +kernel)
set_option maxRecDepth 1000000 in
theorem gw_1044 : GoodIn lw_tbl [(.methodLink RL 86 yX11_stand : Cond)] := gi_one (mb_6 _ (List.mem_of_getElem? (i := 5) rfl)) (by decide +kernel)
set_option maxRecDepth 1000000 in
theorem gw_1043 : GoodIn lw_tbl [(.instanceMethod yX11_stand : Cond)] := gi_one (mb_6 _ (List.mem_of_getElem? (i := 6) rfl)) (by decide +kernel)
set_option maxRecDepth 1000000 in
theorem gw_1042 : GoodIn lw_tbl [(.selects RX11 yX11_stand yX11_stand : Cond)] := gi_one (mb_6 _ (List.mem_of_getElem? (i := 7) rfl)) (by decide +kernel)
set_option maxRecDepth 1000000 in
theorem gw_1051 : GoodIn lw_tbl [(.code yX11_stand cX11_stand 4 (some .int) : Cond)] := gi_one (mb_6 _ (List.mem_of_getElem? (i := 8) rfl)) (by decide +kernel)
set_option maxRecDepth 1000000 in
theorem gw_1053 : GoodIn lw_tbl [(.instanceMethod yX9_findStand : Cond)] := gi_one (mb_6 _ (List.mem_of_getElem? (i := 11) rfl)) (by decide +kernel)
set_option maxRecDepth 1000000 in
theorem gw_1047 : GoodIn lw_tbl [(.code yX9_findStand cX9_findStand 8 none : Cond)] := gi_one (mb_6 _ (List.mem_of_getElem? (i := 12) rfl)) (by decide +kernel)
set_option maxRecDepth 1000000 in
theorem gw_1049 : GoodIn lw_tbl [(.instanceMethod yX6_guessPerson : Cond)] := gi_one (mb_6 _ (List.mem_of_getElem? (i := 16) rfl)) (by decide +kernel)
set_option maxRecDepth 1000000 in
theorem gw_1046 : GoodIn lw_tbl [(.code yX6_guessPerson cX6_guessPerson 4 none : Cond)] := gi_one (mb_6 _ (List.mem_of_getElem? (i := 17) rfl)) (by decide +kernel)
set_option maxRecDepth 1000000 in
theorem gw_1045 : GoodIn lw_tbl [(.methodLink RX9 121 yX9_passTraffic : Cond)] := gi_one (mb_6 _ (List.mem_of_getElem? (i := 18) rfl)) (by decide +kernel)
set_option maxRecDepth 1000000 in
theorem gw_1060 : GoodIn lw_tbl [(.methodLink RL 208 yL_pace : Cond)] := gi_one (mb_6 _ (List.mem_of_getElem? (i := 19) rfl)) (by decide +kernel)
set_option maxRecDepth 1000000 in
theorem gw_1059 : GoodIn lw_tbl [(.static yL_pace : Cond)] := gi_one (mb_6 _ (List.mem_of_getElem? (i := 20) rfl)) (by decide +kernel)
set_option maxRecDepth 1000000 in
theorem gw_1068 : GoodIn lw_tbl [(.codeWith yL_pace cL_pace 7 (some .int) [(0, 14, 17, 34), (0, 14, 21, 13), (0, 14, 25, 51)] : Cond)] := gi_one (mb_6 _ (List.mem_of_getElem? (i := 21) rfl)) (by decide +kernel)
set_option maxRecDepth 1000000 in
theorem gw_1063 : GoodIn lw_tbl [(.methodLink RL 89 yX11_pace : Cond)] := gi_one (mb_6 _ (List.mem_of_getElem? (i := 22) rfl)) (by decide +kernel)
set_option maxRecDepth 1000000 in
theorem gw_1062 : GoodIn lw_tbl [(.instanceMethod yX11_pace : Cond)] := gi_one (mb_6 _ (List.mem_of_getElem? (i := 23) rfl)) (by decide +kernel)
set_option maxRecDepth 1000000 in
theorem gw_1061 : GoodIn lw_tbl [(.selects RX11 yX11_pace yX11_pace : Cond)] := gi_one (mb_6 _ (List.mem_of_getElem? (i := 24) rfl)) (by decide +kernel)
set_option maxRecDepth 1000000 in
theorem gw_1065 : GoodIn lw_tbl [(.code yX11_pace cX11_pace 5 (some .int) : Cond)] := gi_one (mb_6 _ (List.mem_of_getElem? (i := 25) rfl)) (by decide +kernel)
set_option maxRecDepth 1000000 in
theorem gw_1067 : GoodIn lw_tbl [(.instanceMethod yX9_greatestPace : Cond)] := gi_one (mb_6 _ (List.mem_of_getElem? (i := 28) rfl)) (by decide +kernel)
set_option maxRecDepth 1000000 in
theorem gw_1064 : GoodIn lw_tbl [(.code yX9_greatestPace cX9_greatestPace 7 (some .int) : Cond)] := gi_one (mb_6 _ (List.mem_of_getElem? (i := 29) rfl)) (by decide +kernel)
set_option maxRecDepth 1000000 in
theorem gw_1074 : GoodIn lw_tbl [(.methodLink RL 211 yL_moved : Cond)] := gi_one (mb_6 _ (List.mem_of_getElem? (i := 30) rfl)) (by decide +kernel)
set_option maxRecDepth 1000000 in
theorem gw_1073 : GoodIn lw_tbl [(.static yL_moved : Cond)] := gi_one (mb_6 _ (List.mem_of_getElem? (i := 31) rfl)) (by decide +kernel)
set_option maxRecDepth 1000000 in
theorem gw_1088 : GoodIn lw_tbl [(.codeWith yL_moved cL_moved 5 (some .int) [(0, 10, 13, 34), (0, 10, 17, 13), (0, 10, 21, 51)] : Cond)] := gi_one (mb_6 _ (List.mem_of_getElem? (i := 32) rfl)) (by decide +kernel)
set_option maxRecDepth 1000000 in
theorem gw_1077 : GoodIn lw_tbl [(.methodLink RL 92 yX11_moved : Cond)] := gi_one (mb_6 _ (List.mem_of_getElem? (i := 33) rfl)) (by decide +kernel)
set_option maxRecDepth 1000000 in
theorem gw_1076 : GoodIn lw_tbl [(.instanceMethod yX11_moved : Cond)] := gi_one (mb_6 _ (List.mem_of_getElem? (i := 34) rfl)) (by decide +kernel)
set_option maxRecDepth 1000000 in
theorem gw_1075 : GoodIn lw_tbl [(.selects RX11 yX11_moved yX11_moved : Cond)] := gi_one (mb_6 _ (List.mem_of_getElem? (i := 35) rfl)) (by decide +kernel)
set_option maxRecDepth 1000000 in
theorem gw_1085 : GoodIn lw_tbl [(.code yX11_moved cX11_moved 3 (some .int) : Cond)] := gi_one (mb_6 _ (List.mem_of_getElem? (i := 36) rfl)) (by decide +kernel)
set_option maxRecDepth 1000000 in
theorem gw_1087 : GoodIn lw_tbl [(.instanceMethod yX9_findStep : Cond)] := gi_one (mb_6 _ (List.mem_of_getElem? (i := 39) rfl)) (by decide +kernel)
set_option maxRecDepth 1000000 in
theorem gw_1080 : GoodIn lw_tbl [(.code yX9_findStep cX9_findStep 6 none : Cond)] := gi_one (mb_6 _ (List.mem_of_getElem? (i := 40) rfl)) (by decide +kernel)
set_option maxRecDepth 1000000 in
theorem gw_1084 : GoodIn lw_tbl [(.instanceMethod yX6_canStep : Cond)] := gi_one (mb_6 _ (List.mem_of_getElem? (i := 43) rfl)) (by decide +kernel)
set_option maxRecDepth 1000000 in
theorem gw_1079 : GoodIn lw_tbl [(.code yX6_canStep cX6_canStep 3 (some .boolean) : Cond)] := gi_one (mb_6 _ (List.mem_of_getElem? (i := 44) rfl)) (by decide +kernel)
set_option maxRecDepth 1000000 in
theorem gw_1082 : GoodIn lw_tbl [(.instanceMethod yX6_stepAll : Cond)] := gi_one (mb_6 _ (List.mem_of_getElem? (i := 47) rfl)) (by decide +kernel)
set_option maxRecDepth 1000000 in
theorem gw_1078 : GoodIn lw_tbl [(.code yX6_stepAll cX6_stepAll 3 none : Cond)] := gi_one (mb_6 _ (List.mem_of_getElem? (i := 48) rfl)) (by decide +kernel)
set_option maxRecDepth 1000000 in
theorem gw_1098 : GoodIn lw_tbl [(.methodLink RL 214 yL_mend : Cond)] := gi_one (mb_6 _ (List.mem_of_getElem? (i := 49) rfl)) (by decide +kernel)
set_option maxRecDepth 1000000 in
theorem gw_1097 : GoodIn lw_tbl [(.static yL_mend : Cond)] := gi_one (mb_6 _ (List.mem_of_getElem? (i := 50) rfl)) (by decide +kernel)
set_option maxRecDepth 1000000 in
theorem gw_1117 : GoodIn lw_tbl [(.codeWith yL_mend cL_mend 8 (some .int) [(0, 16, 19, 28), (0, 16, 23, 34), (0, 16, 27, 13), (0, 16, 31, 51)] : Cond)] := gi_one (mb_6 _ (List.mem_of_getElem? (i := 51) rfl)) (by decide +kernel)
set_option maxRecDepth 1000000 in
theorem gw_1101 : GoodIn lw_tbl [(.methodLink RL 95 yX11_mend : Cond)] := gi_one (mb_6 _ (List.mem_of_getElem? (i := 52) rfl)) (by decide +kernel)
set_option maxRecDepth 1000000 in
theorem gw_1100 : GoodIn lw_tbl [(.instanceMethod yX11_mend : Cond)] := gi_one (mb_6 _ (List.mem_of_getElem? (i := 53) rfl)) (by decide +kernel)
set_option maxRecDepth 1000000 in
theorem gw_1099 : GoodIn lw_tbl [(.selects RX11 yX11_mend yX11_mend : Cond)] := gi_one (mb_6 _ (List.mem_of_getElem? (i := 54) rfl)) (by decide +kernel)
set_option maxRecDepth 1000000 in
theorem gw_1114 : GoodIn lw_tbl [(.code yX11_mend cX11_mend 6 (some .int) : Cond)] := gi_one (mb_6 _ (List.mem_of_getElem? (i := 55) rfl)) (by decide +kernel)
set_option maxRecDepth 1000000 in
theorem gw_1116 : GoodIn lw_tbl [(.instanceMethod yX9_findMend : Cond)] := gi_one (mb_6 _ (List.mem_of_getElem? (i := 58) rfl)) (by decide +kernel)
set_option maxRecDepth 1000000 in
theorem gw_1111 : GoodIn lw_tbl [(.code yX9_findMend cX9_findMend 8 none : Cond)] := gi_one (mb_6 _ (List.mem_of_getElem? (i := 59) rfl)) (by decide +kernel)
set_option maxRecDepth 1000000 in
theorem gw_1106 : GoodIn lw_tbl [(.methodLink RX9 138 yX9_nextRank : Cond)] := gi_one (mb_6 _ (List.mem_of_getElem? (i := 60) rfl)) (by decide +kernel)
set_option maxRecDepth 1000000 in
theorem gw_1105 : GoodIn lw_tbl [(.instanceMethod yX9_nextRank : Cond)] := gi_one (mb_6 _ (List.mem_of_getElem? (i := 62) rfl)) (by decide +kernel)
set_option maxRecDepth 1000000 in
theorem gw_1108 : GoodIn lw_tbl [(.code yX9_nextRank cX9_nextRank 6 (some .int) : Cond)] := gi_one (mb_6 _ (List.mem_of_getElem? (i := 63) rfl)) (by decide +kernel)
set_option maxRecDepth 1000000 in
theorem gw_1110 : GoodIn lw_tbl [(.instanceMethod yX6_coinOf : Cond)] := gi_one (mb_6 _ (List.mem_of_getElem? (i := 66) rfl)) (by decide +kernel)
set_option maxRecDepth 1000000 in
theorem gw_1107 : GoodIn lw_tbl [(.code yX6_coinOf cX6_coinOf 4 (some .int) : Cond)] := gi_one (mb_6 _ (List.mem_of_getElem? (i := 67) rfl)) (by decide +kernel)
set_option maxRecDepth 1000000 in
theorem gw_1113 : GoodIn lw_tbl [(.instanceMethod yX6_doWorks : Cond)] := gi_one (mb_6 _ (List.mem_of_getElem? (i := 70) rfl)) (by decide +kernel)
set_option maxRecDepth 1000000 in
theorem gw_1103 : GoodIn lw_tbl [(.code yX6_doWorks cX6_doWorks 3 none : Cond)] := gi_one (mb_6 _ (List.mem_of_getElem? (i := 71) rfl)) (by decide +kernel)
set_option maxRecDepth 1000000 in
theorem gw_1102 : GoodIn lw_tbl [(.methodLink RX6 106 yX6_doWork : Cond)] := gi_one (mb_6 _ (List.mem_of_getElem? (i := 72) rfl)) (by decide +kernel)
set_option maxRecDepth 1000000 in
theorem gw_1123 : GoodIn lw_tbl [(.methodLink RL 217 yL_share : Cond)] := gi_one (mb_6 _ (List.mem_of_getElem? (i := 73) rfl)) (by decide +kernel)
set_option maxRecDepth 1000000 in
theorem gw_1122 : GoodIn lw_tbl [(.static yL_share : Cond)] := gi_one (mb_6 _ (List.mem_of_getElem? (i := 74) rfl)) (by decide +kernel)
set_option maxRecDepth 1000000 in
theorem gw_1128 : GoodIn lw_tbl [(.codeWith yL_share cL_share 5 (some .int) [(0, 10, 13, 13)] : Cond)] := gi_one (mb_6 _ (List.mem_of_getElem? (i := 75) rfl)) (by decide +kernel)
set_option maxRecDepth 1000000 in
theorem gw_1126 : GoodIn lw_tbl [(.methodLink RL 98 yX11_share : Cond)] := gi_one (mb_6 _ (List.mem_of_getElem? (i := 76) rfl)) (by decide +kernel)
set_option maxRecDepth 1000000 in
theorem gw_1125 : GoodIn lw_tbl [(.instanceMethod yX11_share : Cond)] := gi_one (mb_6 _ (List.mem_of_getElem? (i := 77) rfl)) (by decide +kernel)
set_option maxRecDepth 1000000 in
theorem gw_1124 : GoodIn lw_tbl [(.selects RX11 yX11_share yX11_share : Cond)] := gi_one (mb_6 _ (List.mem_of_getElem? (i := 78) rfl)) (by decide +kernel)
set_option maxRecDepth 1000000 in
theorem gw_1127 : GoodIn lw_tbl [(.code yX11_share cX11_share 4 (some .int) : Cond)] := gi_one (mb_6 _ (List.mem_of_getElem? (i := 79) rfl)) (by decide +kernel)
set_option maxRecDepth 1000000 in
theorem gw_1134 : GoodIn lw_tbl [(.methodLink RL 220 yL_meant : Cond)] := gi_one (mb_6 _ (List.mem_of_getElem? (i := 80) rfl)) (by decide +kernel)
set_option maxRecDepth 1000000 in
theorem gw_1133 : GoodIn lw_tbl [(.static yL_meant : Cond)] := gi_one (mb_6 _ (List.mem_of_getElem? (i := 81) rfl)) (by decide +kernel)
set_option maxRecDepth 1000000 in
theorem gw_1142 : GoodIn lw_tbl [(.codeWith yL_meant cL_meant 10 (some .int) [(0, 20, 23, 28), (0, 20, 27, 34), (0, 20, 31, 13), (0, 20, 35, 51)] : Cond)] := gi_one (mb_6 _ (List.mem_of_getElem? (i := 82) rfl)) (by decide +kernel)
set_option maxRecDepth 1000000 in
theorem gw_1137 : GoodIn lw_tbl [(.methodLink RL 101 yX11_meant : Cond)] := gi_one (mb_6 _ (List.mem_of_getElem? (i := 83) rfl)) (by decide +kernel)
set_option maxRecDepth 1000000 in
theorem gw_1136 : GoodIn lw_tbl [(.instanceMethod yX11_meant : Cond)] := gi_one (mb_6 _ (List.mem_of_getElem? (i := 84) rfl)) (by decide +kernel)
set_option maxRecDepth 1000000 in
theorem gw_1135 : GoodIn lw_tbl [(.selects RX11 yX11_meant yX11_meant : Cond)] := gi_one (mb_6 _ (List.mem_of_getElem? (i := 85) rfl)) (by decide +kernel)
set_option maxRecDepth 1000000 in
theorem gw_1139 : GoodIn lw_tbl [(.code yX11_meant cX11_meant 8 (some .int) : Cond)] := gi_one (mb_6 _ (List.mem_of_getElem? (i := 86) rfl)) (by decide +kernel)
set_option maxRecDepth 1000000 in
theorem gw_1141 : GoodIn lw_tbl [(.instanceMethod yX9_shareMeant : Cond)] := gi_one (mb_6 _ (List.mem_of_getElem? (i := 89) rfl)) (by decide +kernel)
set_option maxRecDepth 1000000 in
theorem gw_1138 : GoodIn lw_tbl [(.code yX9_shareMeant cX9_shareMeant 10 (some .int) : Cond)] := gi_one (mb_6 _ (List.mem_of_getElem? (i := 90) rfl)) (by decide +kernel)
set_option maxRecDepth 1000000 in
theorem gw_1148 : GoodIn lw_tbl [(.methodLink RL 224 yL_dip : Cond)] := gi_one (mb_6 _ (List.mem_of_getElem? (i := 92) rfl)) (by decide +kernel)
set_option maxRecDepth 1000000 in
theorem gw_1147 : GoodIn lw_tbl [(.static yL_dip : Cond)] := gi_one (mb_6 _ (List.mem_of_getElem? (i := 93) rfl)) (by decide +kernel)
set_option maxRecDepth 1000000 in
theorem gw_1157 : GoodIn lw_tbl [(.codeWith yL_dip cL_dip 6 (some .int) [(0, 12, 15, 13)] : Cond)] := gi_one (mb_6 _ (List.mem_of_getElem? (i := 94) rfl)) (by decide +kernel)
set_option maxRecDepth 1000000 in
theorem gw_1151 : GoodIn lw_tbl [(.methodLink RL 105 yX11_dip : Cond)] := gi_one (mb_6 _ (List.mem_of_getElem? (i := 95) rfl)) (by decide +kernel)
set_option maxRecDepth 1000000 in
theorem gw_1150 : GoodIn lw_tbl [(.instanceMethod yX11_dip : Cond)] := gi_one (mb_6 _ (List.mem_of_getElem? (i := 96) rfl)) (by decide +kernel)
set_option maxRecDepth 1000000 in
theorem gw_1149 : GoodIn lw_tbl [(.selects RX11 yX11_dip yX11_dip : Cond)] := gi_one (mb_6 _ (List.mem_of_getElem? (i := 97) rfl)) (by decide +kernel)
set_option maxRecDepth 1000000 in
theorem gw_1154 : GoodIn lw_tbl [(.code yX11_dip cX11_dip 4 (some .int) : Cond)] := gi_one (mb_6 _ (List.mem_of_getElem? (i := 98) rfl)) (by decide +kernel)
set_option maxRecDepth 1000000 in
theorem gw_1156 : GoodIn lw_tbl [(.instanceMethod yX4_addDip : Cond)] := gi_one (mb_6 _ (List.mem_of_getElem? (i := 101) rfl)) (by decide +kernel)
set_option maxRecDepth 1000000 in
theorem gw_1152 : GoodIn lw_tbl [(.code yX4_addDip cX4_addDip 5 (some .int) : Cond)] := gi_one (mb_6 _ (List.mem_of_getElem? (i := 102) rfl)) (by decide +kernel)
set_option maxRecDepth 1000000 in
theorem gw_1163 : GoodIn lw_tbl [(.methodLink RL 227 yL_town : Cond)] := gi_one (mb_6 _ (List.mem_of_getElem? (i := 103) rfl)) (by decide +kernel)
set_option maxRecDepth 1000000 in
theorem gw_1162 : GoodIn lw_tbl [(.static yL_town : Cond)] := gi_one (mb_6 _ (List.mem_of_getElem? (i := 104) rfl)) (by decide +kernel)
set_option maxRecDepth 1000000 in
theorem gw_1190 : GoodIn lw_tbl [(.codeWith yL_town cL_town 4 (some .int) [(0, 9, 12, 13)] : Cond)] := gi_one (mb_6 _ (List.mem_of_getElem? (i := 105) rfl)) (by decide +kernel)
set_option maxRecDepth 1000000 in
theorem gw_1166 : GoodIn lw_tbl [(.methodLink RL 108 yX11_town : Cond)] := gi_one (mb_6 _ (List.mem_of_getElem? (i := 106) rfl)) (by decide +kernel)
set_option maxRecDepth 1000000 in
theorem gw_1165 : GoodIn lw_tbl [(.instanceMethod yX11_town : Cond)] := gi_one (mb_6 _ (List.mem_of_getElem? (i := 107) rfl)) (by decide +kernel)
set_option maxRecDepth 1000000 in
theorem gw_1164 : GoodIn lw_tbl [(.selects RX11 yX11_town yX11_town : Cond)] := gi_one (mb_6 _ (List.mem_of_getElem? (i := 108) rfl)) (by decide +kernel)
set_option maxRecDepth 1000000 in
theorem gw_1186 : GoodIn lw_tbl [(.code yX11_town cX11_town 2 (some .int) : Cond)] := gi_one (mb_6 _ (List.mem_of_getElem? (i := 109) rfl)) (by decide +kernel)
set_option maxRecDepth 1000000 in
theorem gw_1188 : GoodIn lw_tbl [(.instanceMethod yX3_findFirst : Cond)] := gi_one (mb_6 _ (List.mem_of_getElem? (i := 112) rfl)) (by decide +kernel)
set_option maxRecDepth 1000000 in
theorem gw_1179 : GoodIn lw_tbl [(.code yX3_findFirst cX3_findFirst 6 none : Cond)] := gi_one (mb_6 _ (List.mem_of_getElem? (i := 113) rfl)) (by decide +kernel)
set_option maxRecDepth 1000000 in
theorem gw_1176 : GoodIn lw_tbl [(.methodLink RX3 21 yX3_bestNext : Cond)] := gi_one (mb_6 _ (List.mem_of_getElem? (i := 114) rfl)) (by decide +kernel)
set_option maxRecDepth 1000000 in
theorem gw_1175 : GoodIn lw_tbl [(.instanceMethod yX3_bestNext : Cond)] := gi_one (mb_6 _ (List.mem_of_getElem? (i := 116) rfl)) (by decide +kernel)
set_option maxRecDepth 1000000 in
theorem gw_1177 : GoodIn lw_tbl [(.code yX3_bestNext cX3_bestNext 7 (some .int) : Cond)] := gi_one (mb_6 _ (List.mem_of_getElem? (i := 117) rfl)) (by decide +kernel)
set_option maxRecDepth 1000000 in
theorem gw_1170 : GoodIn lw_tbl [(.methodLink RX3 25 yX3_weigh : Cond)] := gi_one (mb_6 _ (List.mem_of_getElem? (i := 119) rfl)) (by decide +kernel)
set_option maxRecDepth 1000000 in
theorem gw_1169 : GoodIn lw_tbl [(.instanceMethod yX3_weigh : Cond)] := gi_one (mb_6 _ (List.mem_of_getElem? (i := 121) rfl)) (by decide +kernel)
set_option maxRecDepth 1000000 in
theorem gw_1171 : GoodIn lw_tbl [(.code yX3_weigh cX3_weigh 8 (some .int) : Cond)] := gi_one (mb_6 _ (List.mem_of_getElem? (i := 122) rfl)) (by decide +kernel)
set_option maxRecDepth 1000000 in
theorem gw_1206 : GoodIn lw_tbl [(.methodLink RL 230 yL_sweep : Cond)] := gi_one (mb_6 _ (List.mem_of_getElem? (i := 127) rfl)) (by decide +kernel)
set_option maxRecDepth 1000000 in
theorem gw_1205 : GoodIn lw_tbl [(.static yL_sweep : Cond)] := gi_one (mb_6 _ (List.mem_of_getElem? (i := 128) rfl)) (by decide +kernel)
set_option maxRecDepth 1000000 in
theorem gw_1227 : GoodIn lw_tbl [(.codeWith yL_sweep cL_sweep 4 (some .int) [(0, 9, 12, 13)] : Cond)] := gi_one (mb_6 _ (List.mem_of_getElem? (i := 129) rfl)) (by decide +kernel)
set_option maxRecDepth 1000000 in
theorem gw_1209 : GoodIn lw_tbl [(.methodLink RL 111 yX11_sweep : Cond)] := gi_one (mb_6 _ (List.mem_of_getElem? (i := 130) rfl)) (by decide +kernel)
set_option maxRecDepth 1000000 in
theorem gw_1208 : GoodIn lw_tbl [(.instanceMethod yX11_sweep : Cond)] := gi_one (mb_6 _ (List.mem_of_getElem? (i := 131) rfl)) (by decide +kernel)
set_option maxRecDepth 1000000 in
theorem gw_1207 : GoodIn lw_tbl [(.selects RX11 yX11_sweep yX11_sweep : Cond)] := gi_one (mb_6 _ (List.mem_of_getElem? (i := 132) rfl)) (by decide +kernel)
set_option maxRecDepth 1000000 in
theorem gw_1224 : GoodIn lw_tbl [(.code yX11_sweep cX11_sweep 2 (some .int) : Cond)] := gi_one (mb_6 _ (List.mem_of_getElem? (i := 133) rfl)) (by decide +kernel)
set_option maxRecDepth 1000000 in
theorem gw_1226 : GoodIn lw_tbl [(.instanceMethod yX3_findSweeping : Cond)] := gi_one (mb_6 _ (List.mem_of_getElem? (i := 136) rfl)) (by decide +kernel)
set_option maxRecDepth 1000000 in
theorem gw_1223 : GoodIn lw_tbl [(.code yX3_findSweeping cX3_findSweeping 4 none : Cond)] := gi_one (mb_6 _ (List.mem_of_getElem? (i := 137) rfl)) (by decide +kernel)
set_option maxRecDepth 1000000 in
theorem gw_1212 : GoodIn lw_tbl [(.methodLink RX3 59 yX3_goOn : Cond)] := gi_one (mb_6 _ (List.mem_of_getElem? (i := 138) rfl)) (by decide +kernel)
set_option maxRecDepth 1000000 in
theorem gw_1211 : GoodIn lw_tbl [(.instanceMethod yX3_goOn : Cond)] := gi_one (mb_6 _ (List.mem_of_getElem? (i := 140) rfl)) (by decide +kernel)
set_option maxRecDepth 1000000 in
theorem gw_1222 : GoodIn lw_tbl [(.code yX3_goOn cX3_goOn 7 none : Cond)] := gi_one (mb_6 _ (List.mem_of_getElem? (i := 141) rfl)) (by decide +kernel)
set_option maxRecDepth 1000000 in
theorem gw_1214 : GoodIn lw_tbl [(.methodLink RX3 63 yX3_steps : Cond)] := gi_one (mb_6 _ (List.mem_of_getElem? (i := 142) rfl)) (by decide +kernel)
set_option maxRecDepth 1000000 in
theorem gw_1213 : GoodIn lw_tbl [(.static yX3_steps : Cond)] := gi_one (mb_6 _ (List.mem_of_getElem? (i := 143) rfl)) (by decide +kernel)
set_option maxRecDepth 1000000 in
theorem gw_1218 : GoodIn lw_tbl [(.code yX3_steps cX3_steps 5 (some .int) : Cond)] := gi_one (mb_6 _ (List.mem_of_getElem? (i := 144) rfl)) (by decide +kernel)
set_option maxRecDepth 1000000 in
theorem gw_1216 : GoodIn lw_tbl [(.methodLink RX3 67 yX3_of : Cond)] := gi_one (mb_6 _ (List.mem_of_getElem? (i := 145) rfl)) (by decide +kernel)
set_option maxRecDepth 1000000 in
theorem gw_1215 : GoodIn lw_tbl [(.static yX3_of : Cond)] := gi_one (mb_6 _ (List.mem_of_getElem? (i := 146) rfl)) (by decide +kernel)
set_option maxRecDepth 1000000 in
theorem gw_1217 : GoodIn lw_tbl [(.code yX3_of cX3_of 3 (some .int) : Cond)] := gi_one (mb_6 _ (List.mem_of_getElem? (i := 147) rfl)) (by decide +kernel)
set_option maxRecDepth 1000000 in
theorem gw_1242 : GoodIn lw_tbl [(.methodLink RL 233 yL_ice : Cond)] := gi_one (mb_6 _ (List.mem_of_getElem? (i := 151) rfl)) (by decide +kernel)
set_option maxRecDepth 1000000 in
theorem gw_1241 : GoodIn lw_tbl [(.static yL_ice : Cond)] := gi_one (mb_6 _ (List.mem_of_getElem? (i := 152) rfl)) (by decide +kernel)
set_option maxRecDepth 1000000 in
theorem gw_1257 : GoodIn lw_tbl [(.codeWith yL_ice cL_ice 5 (some .int) [(0, 10, 13, 13)] : Cond)] := gi_one (mb_6 _ (List.mem_of_getElem? (i := 153) rfl)) (by decide +kernel)
set_option maxRecDepth 1000000 in
theorem gw_1245 : GoodIn lw_tbl [(.methodLink RL 114 yX11_ice : Cond)] := gi_one (mb_6 _ (List.mem_of_getElem? (i := 154) rfl)) (by decide +kernel)
set_option maxRecDepth 1000000 in
theorem gw_1244 : GoodIn lw_tbl [(.instanceMethod yX11_ice : Cond)] := gi_one (mb_6 _ (List.mem_of_getElem? (i := 155) rfl)) (by decide +kernel)
set_option maxRecDepth 1000000 in
theorem gw_1243 : GoodIn lw_tbl [(.selects RX11 yX11_ice yX11_ice : Cond)] := gi_one (mb_6 _ (List.mem_of_getElem? (i := 156) rfl)) (by decide +kernel)
set_option maxRecDepth 1000000 in
theorem gw_1250 : GoodIn lw_tbl [(.code yX11_ice cX11_ice 3 (some .int) : Cond)] := gi_one (mb_6 _ (List.mem_of_getElem? (i := 157) rfl)) (by decide +kernel)
set_option maxRecDepth 1000000 in
theorem gw_1252 : GoodIn lw_tbl [(.instanceMethod yX6_iceCells : Cond)] := gi_one (mb_6 _ (List.mem_of_getElem? (i := 160) rfl)) (by decide +kernel)
set_option maxRecDepth 1000000 in
theorem gw_1246 : GoodIn lw_tbl [(.code yX6_iceCells cX6_iceCells 4 (some .int) : Cond)] := gi_one (mb_6 _ (List.mem_of_getElem? (i := 161) rfl)) (by decide +kernel)
set_option maxRecDepth 1000000 in
theorem gw_1254 : GoodIn lw_tbl [(.instanceMethod yX6_longestIce : Cond)] := gi_one (mb_6 _ (List.mem_of_getElem? (i := 164) rfl)) (by decide +kernel)
set_option maxRecDepth 1000000 in
theorem gw_1247 : GoodIn lw_tbl [(.code yX6_longestIce cX6_longestIce 6 (some .int) : Cond)] := gi_one (mb_6 _ (List.mem_of_getElem? (i := 165) rfl)) (by decide +kernel)
set_option maxRecDepth 1000000 in
theorem gw_1256 : GoodIn lw_tbl [(.instanceMethod yX6_personsOnIce : Cond)] := gi_one (mb_6 _ (List.mem_of_getElem? (i := 169) rfl)) (by decide +kernel)
set_option maxRecDepth 1000000 in
theorem gw_1249 : GoodIn lw_tbl [(.code yX6_personsOnIce cX6_personsOnIce 4 (some .int) : Cond)] := gi_one (mb_6 _ (List.mem_of_getElem? (i := 170) rfl)) (by decide +kernel)
set_option maxRecDepth 1000000 in
theorem gw_22 : GoodIn lw_tbl [(.fieldLink RX12 1 "KerbSplashModel" "thrown" "I" : Cond)] := gi_one (mb_6 _ (List.mem_of_getElem? (i := 177) rfl)) (by decide +kernel)
set_option maxRecDepth 1000000 in
theorem gw_348 : GoodIn lw_tbl [(.fieldLink RX12 7 "KerbSplashModel" "refused" "[I" : Cond)] := gi_one (mb_6 _ (List.mem_of_getElem? (i := 178) rfl)) (by decide +kernel)
set_option maxRecDepth 1000000 in
theorem gw_21 : GoodIn lw_tbl [(.fieldLink RX12 77 "KerbSplashModel" "taped" "I" : Cond)] := gi_one (mb_6 _ (List.mem_of_getElem? (i := 179) rfl)) (by decide +kernel)
set_option maxRecDepth 1000000 in
theorem gw_271 : GoodIn lw_tbl [(.fieldLink RX12 89 "KerbSplashModel" "size" "I" : Cond)] := gi_one (mb_6 _ (List.mem_of_getElem? (i := 180) rfl)) (by decide +kernel)
set_option maxRecDepth 1000000 in
theorem gw_272 : GoodIn lw_tbl [(.fieldLink RX12 86 "KerbSplashModel" "at" "I" : Cond)] := gi_one (mb_6 _ (List.mem_of_getElem? (i := 181) rfl)) (by decide +kernel)
set_option maxRecDepth 1000000 in
theorem gw_266 : GoodIn lw_tbl [(.fieldLink RX12 80 "KerbSplashModel" "bad" "I" : Cond)] := gi_one (mb_6 _ (List.mem_of_getElem? (i := 182) rfl)) (by decide +kernel)
set_option maxRecDepth 1000000 in
theorem gw_265 : GoodIn lw_tbl [(.fieldLink RX12 83 "KerbSplashModel" "badKind" "I" : Cond)] := gi_one (mb_6 _ (List.mem_of_getElem? (i := 183) rfl)) (by decide +kernel)
set_option maxRecDepth 1000000 in
theorem gw_343 : GoodIn lw_tbl [(.fieldLink RX12 120 "KerbSplashModel" "opens" "I" : Cond)] := gi_one (mb_6 _ (List.mem_of_getElem? (i := 184) rfl)) (by decide +kernel)
set_option maxRecDepth 1000000 in
theorem gw_338 : GoodIn lw_tbl [(.fieldLink RX12 17 "KerbSplashModel" "faultAt" "I" : Cond)] := gi_one (mb_6 _ (List.mem_of_getElem? (i := 185) rfl)) (by decide +kernel)
set_option maxRecDepth 1000000 in
theorem gw_20 : GoodIn lw_tbl [(.fieldLink RX12 20 "KerbSplashModel" "tape" "[I" : Cond)] := gi_one (mb_6 _ (List.mem_of_getElem? (i := 186) rfl)) (by decide +kernel)
set_option maxRecDepth 1000000 in
theorem gw_351 : GoodIn lw_tbl [(.fieldLink RX12 23 "KerbSplashModel" "b" "[I" : Cond)] := gi_one (mb_6 _ (List.mem_of_getElem? (i := 187) rfl)) (by decide +kernel)
set_option maxRecDepth 1000000 in
theorem gw_295 : GoodIn lw_tbl [(.fieldLink RX12 26 "KerbSplashModel" "newStreet" "[I" : Cond)] := gi_one (mb_6 _ (List.mem_of_getElem? (i := 188) rfl)) (by decide +kernel)
set_option maxRecDepth 1000000 in
theorem gw_350 : GoodIn lw_tbl [(.fieldLink RX12 29 "KerbSplashModel" "s" "[I" : Cond)] := gi_one (mb_6 _ (List.mem_of_getElem? (i := 189) rfl)) (by decide +kernel)
set_option maxRecDepth 1000000 in
theorem gw_309 : GoodIn lw_tbl [(.fieldLink RX12 32 "KerbSplashModel" "newState" "[I" : Cond)] := gi_one (mb_6 _ (List.mem_of_getElem? (i := 190) rfl)) (by decide +kernel)
set_option maxRecDepth 1000000 in
theorem gw_972 : GoodIn lw_tbl [(.fieldLink RX12 35 "KerbSplashModel" "kept" "[I" : Cond)] := gi_one (mb_6 _ (List.mem_of_getElem? (i := 191) rfl)) (by decide +kernel)
set_option maxRecDepth 1000000 in
theorem gw_1276 : GoodIn lw_tbl [(.fieldLink RX12 38 "KerbSplashModel" "image" "[I" : Cond)] := gi_one (mb_6 _ (List.mem_of_getElem? (i := 192) rfl)) (by decide +kernel)
set_option maxRecDepth 1000000 in
theorem gw_352 : GoodIn lw_tbl [(.fieldLink RX12 201 "KerbSplashModel" "images" "I" : Cond)] := gi_one (mb_6 _ (List.mem_of_getElem? (i := 193) rfl)) (by decide +kernel)
set_option maxRecDepth 1000000 in
theorem gw_387 : GoodIn lw_tbl [(.fieldLink RX12 204 "KerbSplashModel" "rains" "I" : Cond)] := gi_one (mb_6 _ (List.mem_of_getElem? (i := 194) rfl)) (by decide +kernel)
set_option maxRecDepth 1000000 in
theorem gw_492 : GoodIn lw_tbl [(.fieldLink RX12 209 "KerbSplashModel" "laws" "I" : Cond)] := gi_one (mb_6 _ (List.mem_of_getElem? (i := 195) rfl)) (by decide +kernel)
set_option maxRecDepth 1000000 in
theorem gw_386 : GoodIn lw_tbl [(.fieldLink RX12 41 "KerbSplashModel" "falls" "[I" : Cond)] := gi_one (mb_6 _ (List.mem_of_getElem? (i := 196) rfl)) (by decide +kernel)
set_option maxRecDepth 1000000 in
theorem gw_385 : GoodIn lw_tbl [(.fieldLink RX12 44 "KerbSplashModel" "rainMany" "[I" : Cond)] := gi_one (mb_6 _ (List.mem_of_getElem? (i := 197) rfl)) (by decide +kernel)
set_option maxRecDepth 1000000 in
theorem gw_384 : GoodIn lw_tbl [(.fieldLink RX12 47 "KerbSplashModel" "rainTimes" "[I" : Cond)] := gi_one (mb_6 _ (List.mem_of_getElem? (i := 198) rfl)) (by decide +kernel)
set_option maxRecDepth 1000000 in
theorem gw_491 : GoodIn lw_tbl [(.fieldLink RX12 212 "KerbSplashModel" "steps" "I" : Cond)] := gi_one (mb_6 _ (List.mem_of_getElem? (i := 199) rfl)) (by decide +kernel)
set_option maxRecDepth 1000000 in
theorem gw_493 : GoodIn lw_tbl [(.fieldLink RX12 50 "KerbSplashModel" "step" "[I" : Cond)] := gi_one (mb_6 _ (List.mem_of_getElem? (i := 200) rfl)) (by decide +kernel)
set_option maxRecDepth 1000000 in
theorem gw_490 : GoodIn lw_tbl [(.fieldLink RX12 53 "KerbSplashModel" "stepValue" "[I" : Cond)] := gi_one (mb_6 _ (List.mem_of_getElem? (i := 201) rfl)) (by decide +kernel)
set_option maxRecDepth 1000000 in
theorem gw_521 : GoodIn lw_tbl [(.fieldLink RX12 56 "KerbSplashModel" "lawFrom" "[I" : Cond)] := gi_one (mb_6 _ (List.mem_of_getElem? (i := 202) rfl)) (by decide +kernel)
set_option maxRecDepth 1000000 in
theorem gw_520 : GoodIn lw_tbl [(.fieldLink RX12 59 "KerbSplashModel" "lawTo" "[I" : Cond)] := gi_one (mb_6 _ (List.mem_of_getElem? (i := 203) rfl)) (by decide +kernel)
set_option maxRecDepth 1000000 in
theorem gw_811 : GoodIn lw_tbl [(.fieldLink RX12 62 "KerbSplashModel" "stack" "[I" : Cond)] := gi_one (mb_6 _ (List.mem_of_getElem? (i := 204) rfl)) (by decide +kernel)
set_option maxRecDepth 1000000 in
theorem gw_810 : GoodIn lw_tbl [(.fieldLink RX12 65 "KerbSplashModel" "names" "[I" : Cond)] := gi_one (mb_6 _ (List.mem_of_getElem? (i := 205) rfl)) (by decide +kernel)
set_option maxRecDepth 1000000 in
theorem gw_760 : GoodIn lw_tbl [(.fieldLink RX12 318 "KerbSplashModel" "watch" "I" : Cond)] := gi_one (mb_6 _ (List.mem_of_getElem? (i := 206) rfl)) (by decide +kernel)
set_option maxRecDepth 1000000 in
theorem gw_759 : GoodIn lw_tbl [(.fieldLink RX12 321 "KerbSplashModel" "watchCell" "I" : Cond)] := gi_one (mb_6 _ (List.mem_of_getElem? (i := 207) rfl)) (by decide +kernel)
set_option maxRecDepth 1000000 in
theorem gw_893 : GoodIn lw_tbl [(.fieldLink RX12 344 "KerbSplashModel" "itsRow" "I" : Cond)] := gi_one (mb_6 _ (List.mem_of_getElem? (i := 208) rfl)) (by decide +kernel)
set_option maxRecDepth 1000000 in
theorem gw_892 : GoodIn lw_tbl [(.fieldLink RX12 353 "KerbSplashModel" "itsPace" "I" : Cond)] := gi_one (mb_6 _ (List.mem_of_getElem? (i := 209) rfl)) (by decide +kernel)
set_option maxRecDepth 1000000 in
theorem gw_1038 : GoodIn lw_tbl [(.fieldLink RX12 68 "KerbSplashModel" "cases" "[I" : Cond)] := gi_one (mb_6 _ (List.mem_of_getElem? (i := 210) rfl)) (by decide +kernel)
set_option maxRecDepth 1000000 in
theorem gw_604 : GoodIn lw_tbl [(.fieldLink RX12 71 "KerbSplashModel" "shut" "I" : Cond)] := gi_one (mb_6 _ (List.mem_of_getElem? (i := 211) rfl)) (by decide +kernel)
set_option maxRecDepth 1000000 in
theorem gw_1203 : GoodIn lw_tbl [(.fieldLink RX12 74 "KerbSplashModel" "rest" "[I" : Cond)] := gi_one (mb_6 _ (List.mem_of_getElem? (i := 212) rfl)) (by decide +kernel)
set_option maxRecDepth 1000000 in
theorem gw_1239 : GoodIn lw_tbl [(.fieldLink RX12 409 "KerbSplashModel" "sweepFar" "I" : Cond)] := gi_one (mb_6 _ (List.mem_of_getElem? (i := 213) rfl)) (by decide +kernel)
set_option maxRecDepth 1000000 in
theorem gw_1238 : GoodIn lw_tbl [(.fieldLink RX12 412 "KerbSplashModel" "sweepRow" "I" : Cond)] := gi_one (mb_6 _ (List.mem_of_getElem? (i := 214) rfl)) (by decide +kernel)
set_option maxRecDepth 1000000 in
theorem gw_18 : GoodIn lw_tbl [(.methodLink RL 124 yX12_feed : Cond)] := gi_one (mb_7 _ (List.mem_of_getElem? (i := 52) rfl)) (by decide +kernel)
set_option maxRecDepth 1000000 in
theorem gw_17 : GoodIn lw_tbl [(.instanceMethod yX12_feed : Cond)] := gi_one (mb_7 _ (List.mem_of_getElem? (i := 53) rfl)) (by decide +kernel)
set_option maxRecDepth 1000000 in
theorem gw_16 : GoodIn lw_tbl [(.selects RX12 yX12_feed yX12_feed : Cond)] := gi_one (mb_7 _ (List.mem_of_getElem? (i := 54) rfl)) (by decide +kernel)
set_option maxRecDepth 1000000 in
theorem gw_19 : GoodIn lw_tbl [(.code yX12_feed cX12_feed 8 (some .int) : Cond)] := gi_one (mb_7 _ (List.mem_of_getElem? (i := 55) rfl)) (by decide +kernel)
set_option maxRecDepth 1000000 in
theorem gw_528 : GoodIn lw_tbl [(.methodLink RL 141 yX12_fault : Cond)] := gi_one (mb_7 _ (List.mem_of_getElem? (i := 56) rfl)) (by decide +kernel)
set_option maxRecDepth 1000000 in
theorem gw_527 : GoodIn lw_tbl [(.instanceMethod yX12_fault : Cond)] := gi_one (mb_7 _ (List.mem_of_getElem? (i := 57) rfl)) (by decide +kernel)
set_option maxRecDepth 1000000 in
theorem gw_526 : GoodIn lw_tbl [(.selects RX12 yX12_fault yX12_fault : Cond)] := gi_one (mb_7 _ (List.mem_of_getElem? (i := 58) rfl)) (by decide +kernel)
set_option maxRecDepth 1000000 in
theorem gw_529 : GoodIn lw_tbl [(.code yX12_fault cX12_fault 1 (some .int) : Cond)] := gi_one (mb_7 _ (List.mem_of_getElem? (i := 59) rfl)) (by decide +kernel)
set_option maxRecDepth 1000000 in
theorem gw_249 : GoodIn lw_tbl [(.methodLink RL 130 yX12_street : Cond)] := gi_one (mb_7 _ (List.mem_of_getElem? (i := 60) rfl)) (by decide +kernel)
set_option maxRecDepth 1000000 in
theorem gw_248 : GoodIn lw_tbl [(.instanceMethod yX12_street : Cond)] := gi_one (mb_7 _ (List.mem_of_getElem? (i := 61) rfl)) (by decide +kernel)
set_option maxRecDepth 1000000 in
theorem gw_247 : GoodIn lw_tbl [(.selects RX12 yX12_street yX12_street : Cond)] := gi_one (mb_7 _ (List.mem_of_getElem? (i := 62) rfl)) (by decide +kernel)
set_option maxRecDepth 1000000 in
theorem gw_349 : GoodIn lw_tbl [(.code yX12_street cX12_street 5 (some .int) : Cond)] := gi_one (mb_7 _ (List.mem_of_getElem? (i := 63) rfl)) (by decide +kernel)
set_option maxRecDepth 1000000 in
theorem gw_346 : GoodIn lw_tbl [(.methodLink RX12 175 yX12_may : Cond)] := gi_one (mb_7 _ (List.mem_of_getElem? (i := 64) rfl)) (by decide +kernel)
set_option maxRecDepth 1000000 in
theorem gw_345 : GoodIn lw_tbl [(.instanceMethod yX12_may : Cond)] := gi_one (mb_7 _ (List.mem_of_getElem? (i := 66) rfl)) (by decide +kernel)
set_option maxRecDepth 1000000 in
theorem gw_347 : GoodIn lw_tbl [(.code yX12_may cX12_may 4 (some .boolean) : Cond)] := gi_one (mb_7 _ (List.mem_of_getElem? (i := 67) rfl)) (by decide +kernel)
set_option maxRecDepth 1000000 in
theorem gw_341 : GoodIn lw_tbl [(.methodLink RX12 179 yX12_begins : Cond)] := gi_one (mb_7 _ (List.mem_of_getElem? (i := 68) rfl)) (by decide +kernel)
set_option maxRecDepth 1000000 in
theorem gw_340 : GoodIn lw_tbl [(.instanceMethod yX12_begins : Cond)] := gi_one (mb_7 _ (List.mem_of_getElem? (i := 70) rfl)) (by decide +kernel)
set_option maxRecDepth 1000000 in
theorem gw_342 : GoodIn lw_tbl [(.code yX12_begins cX12_begins 2 none : Cond)] := gi_one (mb_7 _ (List.mem_of_getElem? (i := 71) rfl)) (by decide +kernel)
set_option maxRecDepth 1000000 in
theorem gw_275 : GoodIn lw_tbl [(.methodLink RX12 109 yX12_fine : Cond)] := gi_one (mb_7 _ (List.mem_of_getElem? (i := 72) rfl)) (by decide +kernel)
set_option maxRecDepth 1000000 in
theorem gw_274 : GoodIn lw_tbl [(.instanceMethod yX12_fine : Cond)] := gi_one (mb_7 _ (List.mem_of_getElem? (i := 74) rfl)) (by decide +kernel)
set_option maxRecDepth 1000000 in
theorem gw_276 : GoodIn lw_tbl [(.code yX12_fine cX12_fine 1 (some .boolean) : Cond)] := gi_one (mb_7 _ (List.mem_of_getElem? (i := 75) rfl)) (by decide +kernel)
set_option maxRecDepth 1000000 in
theorem gw_332 : GoodIn lw_tbl [(.methodLink RX12 182 yX12_isMore : Cond)] := gi_one (mb_7 _ (List.mem_of_getElem? (i := 76) rfl)) (by decide +kernel)
set_option maxRecDepth 1000000 in
theorem gw_331 : GoodIn lw_tbl [(.instanceMethod yX12_isMore : Cond)] := gi_one (mb_7 _ (List.mem_of_getElem? (i := 78) rfl)) (by decide +kernel)
set_option maxRecDepth 1000000 in
theorem gw_333 : GoodIn lw_tbl [(.code yX12_isMore cX12_isMore 1 (some .boolean) : Cond)] := gi_one (mb_7 _ (List.mem_of_getElem? (i := 79) rfl)) (by decide +kernel)
set_option maxRecDepth 1000000 in
theorem gw_269 : GoodIn lw_tbl [(.methodLink RX12 92 yX12_here : Cond)] := gi_one (mb_7 _ (List.mem_of_getElem? (i := 80) rfl)) (by decide +kernel)
set_option maxRecDepth 1000000 in
theorem gw_268 : GoodIn lw_tbl [(.instanceMethod yX12_here : Cond)] := gi_one (mb_7 _ (List.mem_of_getElem? (i := 82) rfl)) (by decide +kernel)
set_option maxRecDepth 1000000 in
theorem gw_270 : GoodIn lw_tbl [(.code yX12_here cX12_here 1 (some .int) : Cond)] := gi_one (mb_7 _ (List.mem_of_getElem? (i := 83) rfl)) (by decide +kernel)
set_option maxRecDepth 1000000 in
theorem gw_323 : GoodIn lw_tbl [(.methodLink RX12 145 yX12_word : Cond)] := gi_one (mb_7 _ (List.mem_of_getElem? (i := 84) rfl)) (by decide +kernel)
set_option maxRecDepth 1000000 in
theorem gw_322 : GoodIn lw_tbl [(.instanceMethod yX12_word : Cond)] := gi_one (mb_7 _ (List.mem_of_getElem? (i := 86) rfl)) (by decide +kernel)
set_option maxRecDepth 1000000 in
theorem gw_324 : GoodIn lw_tbl [(.code yX12_word cX12_word 4 (some .int) : Cond)] := gi_one (mb_7 _ (List.mem_of_getElem? (i := 87) rfl)) (by decide +kernel)
set_option maxRecDepth 1000000 in
theorem gw_318 : GoodIn lw_tbl [(.methodLink RX12 96 yX12_isSmall : Cond)] := gi_one (mb_7 _ (List.mem_of_getElem? (i := 88) rfl)) (by decide +kernel)
set_option maxRecDepth 1000000 in
theorem gw_317 : GoodIn lw_tbl [(.static yX12_isSmall : Cond)] := gi_one (mb_7 _ (List.mem_of_getElem? (i := 89) rfl)) (by decide +kernel)
set_option maxRecDepth 1000000 in
theorem gw_319 : GoodIn lw_tbl [(.code yX12_isSmall cX12_isSmall 1 (some .boolean) : Cond)] := gi_one (mb_7 _ (List.mem_of_getElem? (i := 90) rfl)) (by decide +kernel)
set_option maxRecDepth 1000000 in
theorem gw_328 : GoodIn lw_tbl [(.methodLink RX12 187 yX12_isWord : Cond)] := gi_one (mb_7 _ (List.mem_of_getElem? (i := 92) rfl)) (by decide +kernel)
set_option maxRecDepth 1000000 in
theorem gw_327 : GoodIn lw_tbl [(.instanceMethod yX12_isWord : Cond)] := gi_one (mb_7 _ (List.mem_of_getElem? (i := 94) rfl)) (by decide +kernel)
set_option maxRecDepth 1000000 in
theorem gw_329 : GoodIn lw_tbl [(.code yX12_isWord cX12_isWord 3 (some .boolean) : Cond)] := gi_one (mb_7 _ (List.mem_of_getElem? (i := 95) rfl)) (by decide +kernel)
set_option maxRecDepth 1000000 in
theorem gw_255 : GoodIn lw_tbl [(.methodLink RX12 100 yJ0_length_8abf5 : Cond)] := gi_one (mb_7 _ (List.mem_of_getElem? (i := 96) rfl)) (by decide +kernel)
set_option maxRecDepth 1000000 in
theorem gw_254 : GoodIn lw_tbl [(.methodLink RX12 105 yJ0_charAt_5068e : Cond)] := gi_one (mb_7 _ (List.mem_of_getElem? (i := 97) rfl)) (by decide +kernel)
set_option maxRecDepth 1000000 in
theorem gw_253 : GoodIn lw_tbl [(.methodLink RX12 135 yX12_of : Cond)] := gi_one (mb_7 _ (List.mem_of_getElem? (i := 99) rfl)) (by decide +kernel)
set_option maxRecDepth 1000000 in
theorem gw_252 : GoodIn lw_tbl [(.static yX12_of : Cond)] := gi_one (mb_7 _ (List.mem_of_getElem? (i := 100) rfl)) (by decide +kernel)
set_option maxRecDepth 1000000 in
theorem gw_256 : GoodIn lw_tbl [(.code yX12_of cX12_of 3 (some .int) : Cond)] := gi_one (mb_7 _ (List.mem_of_getElem? (i := 101) rfl)) (by decide +kernel)
set_option maxRecDepth 1000000 in
theorem gw_251 : GoodIn lw_tbl [(.methodLink RX12 167 yX12_workOf : Cond)] := gi_one (mb_7 _ (List.mem_of_getElem? (i := 105) rfl)) (by decide +kernel)
set_option maxRecDepth 1000000 in
theorem gw_250 : GoodIn lw_tbl [(.static yX12_workOf : Cond)] := gi_one (mb_7 _ (List.mem_of_getElem? (i := 106) rfl)) (by decide +kernel)
set_option maxRecDepth 1000000 in
theorem gw_257 : GoodIn lw_tbl [(.code yX12_workOf cX12_workOf 1 (some .int) : Cond)] := gi_one (mb_7 _ (List.mem_of_getElem? (i := 107) rfl)) (by decide +kernel)
set_option maxRecDepth 1000000 in
theorem gw_263 : GoodIn lw_tbl [(.methodLink RX12 116 yX12_wrong : Cond)] := gi_one (mb_7 _ (List.mem_of_getElem? (i := 112) rfl)) (by decide +kernel)
set_option maxRecDepth 1000000 in
theorem gw_262 : GoodIn lw_tbl [(.instanceMethod yX12_wrong : Cond)] := gi_one (mb_7 _ (List.mem_of_getElem? (i := 114) rfl)) (by decide +kernel)
set_option maxRecDepth 1000000 in
theorem gw_264 : GoodIn lw_tbl [(.code yX12_wrong cX12_wrong 3 none : Cond)] := gi_one (mb_7 _ (List.mem_of_getElem? (i := 115) rfl)) (by decide +kernel)
set_option maxRecDepth 1000000 in
theorem gw_280 : GoodIn lw_tbl [(.methodLink RX12 191 yX12_readClause : Cond)] := gi_one (mb_7 _ (List.mem_of_getElem? (i := 116) rfl)) (by decide +kernel)
set_option maxRecDepth 1000000 in
theorem gw_279 : GoodIn lw_tbl [(.instanceMethod yX12_readClause : Cond)] := gi_one (mb_7 _ (List.mem_of_getElem? (i := 118) rfl)) (by decide +kernel)
set_option maxRecDepth 1000000 in
theorem gw_325 : GoodIn lw_tbl [(.code yX12_readClause cX12_readClause 6 none : Cond)] := gi_one (mb_7 _ (List.mem_of_getElem? (i := 119) rfl)) (by decide +kernel)
set_option maxRecDepth 1000000 in
theorem gw_316 : GoodIn lw_tbl [(.methodLink RX12 148 yX12_pass : Cond)] := gi_one (mb_7 _ (List.mem_of_getElem? (i := 120) rfl)) (by decide +kernel)
set_option maxRecDepth 1000000 in
theorem gw_315 : GoodIn lw_tbl [(.instanceMethod yX12_pass : Cond)] := gi_one (mb_7 _ (List.mem_of_getElem? (i := 122) rfl)) (by decide +kernel)
set_option maxRecDepth 1000000 in
theorem gw_320 : GoodIn lw_tbl [(.code yX12_pass cX12_pass 1 none : Cond)] := gi_one (mb_7 _ (List.mem_of_getElem? (i := 123) rfl)) (by decide +kernel)
set_option maxRecDepth 1000000 in
theorem gw_303 : GoodIn lw_tbl [(.methodLink RX12 151 yX12_readShelter : Cond)] := gi_one (mb_7 _ (List.mem_of_getElem? (i := 124) rfl)) (by decide +kernel)
set_option maxRecDepth 1000000 in
theorem gw_302 : GoodIn lw_tbl [(.instanceMethod yX12_readShelter : Cond)] := gi_one (mb_7 _ (List.mem_of_getElem? (i := 126) rfl)) (by decide +kernel)
set_option maxRecDepth 1000000 in
theorem gw_304 : GoodIn lw_tbl [(.code yX12_readShelter cX12_readShelter 3 none : Cond)] := gi_one (mb_7 _ (List.mem_of_getElem? (i := 127) rfl)) (by decide +kernel)
set_option maxRecDepth 1000000 in
theorem gw_298 : GoodIn lw_tbl [(.methodLink RX12 127 yX12_readX : Cond)] := gi_one (mb_7 _ (List.mem_of_getElem? (i := 128) rfl)) (by decide +kernel)
set_option maxRecDepth 1000000 in
theorem gw_297 : GoodIn lw_tbl [(.instanceMethod yX12_readX : Cond)] := gi_one (mb_7 _ (List.mem_of_getElem? (i := 130) rfl)) (by decide +kernel)
set_option maxRecDepth 1000000 in
theorem gw_299 : GoodIn lw_tbl [(.code yX12_readX cX12_readX 1 (some .int) : Cond)] := gi_one (mb_7 _ (List.mem_of_getElem? (i := 131) rfl)) (by decide +kernel)
set_option maxRecDepth 1000000 in
theorem gw_286 : GoodIn lw_tbl [(.methodLink RX12 123 yX12_readNumber : Cond)] := gi_one (mb_7 _ (List.mem_of_getElem? (i := 132) rfl)) (by decide +kernel)
set_option maxRecDepth 1000000 in
theorem gw_285 : GoodIn lw_tbl [(.instanceMethod yX12_readNumber : Cond)] := gi_one (mb_7 _ (List.mem_of_getElem? (i := 134) rfl)) (by decide +kernel)
set_option maxRecDepth 1000000 in
theorem gw_290 : GoodIn lw_tbl [(.code yX12_readNumber cX12_readNumber 6 (some .int) : Cond)] := gi_one (mb_7 _ (List.mem_of_getElem? (i := 135) rfl)) (by decide +kernel)
set_option maxRecDepth 1000000 in
theorem gw_288 : GoodIn lw_tbl [(.methodLink RX12 113 yX12_isDigit : Cond)] := gi_one (mb_7 _ (List.mem_of_getElem? (i := 136) rfl)) (by decide +kernel)
set_option maxRecDepth 1000000 in
theorem gw_287 : GoodIn lw_tbl [(.static yX12_isDigit : Cond)] := gi_one (mb_7 _ (List.mem_of_getElem? (i := 137) rfl)) (by decide +kernel)
set_option maxRecDepth 1000000 in
theorem gw_289 : GoodIn lw_tbl [(.code yX12_isDigit cX12_isDigit 1 (some .boolean) : Cond)] := gi_one (mb_7 _ (List.mem_of_getElem? (i := 138) rfl)) (by decide +kernel)
set_option maxRecDepth 1000000 in
theorem gw_293 : GoodIn lw_tbl [(.methodLink RX12 130 yX12_readY : Cond)] := gi_one (mb_7 _ (List.mem_of_getElem? (i := 139) rfl)) (by decide +kernel)
set_option maxRecDepth 1000000 in
theorem gw_292 : GoodIn lw_tbl [(.instanceMethod yX12_readY : Cond)] := gi_one (mb_7 _ (List.mem_of_getElem? (i := 141) rfl)) (by decide +kernel)
set_option maxRecDepth 1000000 in
theorem gw_294 : GoodIn lw_tbl [(.code yX12_readY cX12_readY 1 (some .int) : Cond)] := gi_one (mb_7 _ (List.mem_of_getElem? (i := 142) rfl)) (by decide +kernel)
set_option maxRecDepth 1000000 in
theorem gw_312 : GoodIn lw_tbl [(.methodLink RX12 159 yX12_readDrain : Cond)] := gi_one (mb_7 _ (List.mem_of_getElem? (i := 143) rfl)) (by decide +kernel)
set_option maxRecDepth 1000000 in
theorem gw_311 : GoodIn lw_tbl [(.instanceMethod yX12_readDrain : Cond)] := gi_one (mb_7 _ (List.mem_of_getElem? (i := 145) rfl)) (by decide +kernel)
set_option maxRecDepth 1000000 in
theorem gw_313 : GoodIn lw_tbl [(.code yX12_readDrain cX12_readDrain 6 none : Cond)] := gi_one (mb_7 _ (List.mem_of_getElem? (i := 146) rfl)) (by decide +kernel)
set_option maxRecDepth 1000000 in
theorem gw_307 : GoodIn lw_tbl [(.methodLink RX12 164 yX12_readPerson : Cond)] := gi_one (mb_7 _ (List.mem_of_getElem? (i := 147) rfl)) (by decide +kernel)
set_option maxRecDepth 1000000 in
theorem gw_306 : GoodIn lw_tbl [(.instanceMethod yX12_readPerson : Cond)] := gi_one (mb_7 _ (List.mem_of_getElem? (i := 149) rfl)) (by decide +kernel)
set_option maxRecDepth 1000000 in
theorem gw_308 : GoodIn lw_tbl [(.code yX12_readPerson cX12_readPerson 3 none : Cond)] := gi_one (mb_7 _ (List.mem_of_getElem? (i := 150) rfl)) (by decide +kernel)
set_option maxRecDepth 1000000 in
theorem gw_283 : GoodIn lw_tbl [(.methodLink RX12 171 yX12_readWork : Cond)] := gi_one (mb_7 _ (List.mem_of_getElem? (i := 151) rfl)) (by decide +kernel)
set_option maxRecDepth 1000000 in
theorem gw_282 : GoodIn lw_tbl [(.instanceMethod yX12_readWork : Cond)] := gi_one (mb_7 _ (List.mem_of_getElem? (i := 153) rfl)) (by decide +kernel)
set_option maxRecDepth 1000000 in
theorem gw_300 : GoodIn lw_tbl [(.code yX12_readWork cX12_readWork 7 none : Cond)] := gi_one (mb_7 _ (List.mem_of_getElem? (i := 154) rfl)) (by decide +kernel)
set_option maxRecDepth 1000000 in
theorem gw_260 : GoodIn lw_tbl [(.methodLink RX12 195 yX12_sign : Cond)] := gi_one (mb_7 _ (List.mem_of_getElem? (i := 155) rfl)) (by decide +kernel)
set_option maxRecDepth 1000000 in
theorem gw_259 : GoodIn lw_tbl [(.instanceMethod yX12_sign : Cond)] := gi_one (mb_7 _ (List.mem_of_getElem? (i := 157) rfl)) (by decide +kernel)
set_option maxRecDepth 1000000 in
theorem gw_277 : GoodIn lw_tbl [(.code yX12_sign cX12_sign 2 none : Cond)] := gi_one (mb_7 _ (List.mem_of_getElem? (i := 158) rfl)) (by decide +kernel)
set_option maxRecDepth 1000000 in
theorem gw_336 : GoodIn lw_tbl [(.methodLink RX12 198 yX12_result : Cond)] := gi_one (mb_7 _ (List.mem_of_getElem? (i := 159) rfl)) (by decide +kernel)
set_option maxRecDepth 1000000 in
theorem gw_335 : GoodIn lw_tbl [(.instanceMethod yX12_result : Cond)] := gi_one (mb_7 _ (List.mem_of_getElem? (i := 161) rfl)) (by decide +kernel)
set_option maxRecDepth 1000000 in
theorem gw_337 : GoodIn lw_tbl [(.code yX12_result cX12_result 2 (some .int) : Cond)] := gi_one (mb_7 _ (List.mem_of_getElem? (i := 162) rfl)) (by decide +kernel)
set_option maxRecDepth 1000000 in
theorem gw_382 : GoodIn lw_tbl [(.methodLink RL 133 yX12_rain : Cond)] := gi_one (mb_7 _ (List.mem_of_getElem? (i := 163) rfl)) (by decide +kernel)
set_option maxRecDepth 1000000 in
theorem gw_381 : GoodIn lw_tbl [(.instanceMethod yX12_rain : Cond)] := gi_one (mb_7 _ (List.mem_of_getElem? (i := 164) rfl)) (by decide +kernel)
set_option maxRecDepth 1000000 in
theorem gw_380 : GoodIn lw_tbl [(.selects RX12 yX12_rain yX12_rain : Cond)] := gi_one (mb_7 _ (List.mem_of_getElem? (i := 165) rfl)) (by decide +kernel)
set_option maxRecDepth 1000000 in
theorem gw_383 : GoodIn lw_tbl [(.code yX12_rain cX12_rain 4 (some .int) : Cond)] := gi_one (mb_7 _ (List.mem_of_getElem? (i := 166) rfl)) (by decide +kernel)
set_option maxRecDepth 1000000 in
theorem gw_474 : GoodIn lw_tbl [(.methodLink RL 136 yX12_law : Cond)] := gi_one (mb_7 _ (List.mem_of_getElem? (i := 168) rfl)) (by decide +kernel)
set_option maxRecDepth 1000000 in
theorem gw_473 : GoodIn lw_tbl [(.instanceMethod yX12_law : Cond)] := gi_one (mb_7 _ (List.mem_of_getElem? (i := 169) rfl)) (by decide +kernel)
set_option maxRecDepth 1000000 in
theorem gw_472 : GoodIn lw_tbl [(.selects RX12 yX12_law yX12_law : Cond)] := gi_one (mb_7 _ (List.mem_of_getElem? (i := 170) rfl)) (by decide +kernel)
set_option maxRecDepth 1000000 in
theorem gw_519 : GoodIn lw_tbl [(.code yX12_law cX12_law 4 (some .int) : Cond)] := gi_one (mb_7 _ (List.mem_of_getElem? (i := 171) rfl)) (by decide +kernel)
set_option maxRecDepth 1000000 in
theorem gw_477 : GoodIn lw_tbl [(.methodLink RX12 233 yX12_whole : Cond)] := gi_one (mb_7 _ (List.mem_of_getElem? (i := 177) rfl)) (by decide +kernel)
set_option maxRecDepth 1000000 in
theorem gw_476 : GoodIn lw_tbl [(.instanceMethod yX12_whole : Cond)] := gi_one (mb_7 _ (List.mem_of_getElem? (i := 179) rfl)) (by decide +kernel)
set_option maxRecDepth 1000000 in
theorem gw_518 : GoodIn lw_tbl [(.code yX12_whole cX12_whole 2 none : Cond)] := gi_one (mb_7 _ (List.mem_of_getElem? (i := 180) rfl)) (by decide +kernel)
set_option maxRecDepth 1000000 in
theorem gw_484 : GoodIn lw_tbl [(.methodLink RX12 230 yX12_opensOne : Cond)] := gi_one (mb_7 _ (List.mem_of_getElem? (i := 182) rfl)) (by decide +kernel)
set_option maxRecDepth 1000000 in
theorem gw_483 : GoodIn lw_tbl [(.instanceMethod yX12_opensOne : Cond)] := gi_one (mb_7 _ (List.mem_of_getElem? (i := 184) rfl)) (by decide +kernel)
set_option maxRecDepth 1000000 in
theorem gw_485 : GoodIn lw_tbl [(.code yX12_opensOne cX12_opensOne 2 none : Cond)] := gi_one (mb_7 _ (List.mem_of_getElem? (i := 185) rfl)) (by decide +kernel)
set_option maxRecDepth 1000000 in
theorem gw_509 : GoodIn lw_tbl [(.methodLink RX12 244 yX12_anyOf : Cond)] := gi_one (mb_7 _ (List.mem_of_getElem? (i := 186) rfl)) (by decide +kernel)
set_option maxRecDepth 1000000 in
theorem gw_508 : GoodIn lw_tbl [(.instanceMethod yX12_anyOf : Cond)] := gi_one (mb_7 _ (List.mem_of_getElem? (i := 188) rfl)) (by decide +kernel)
set_option maxRecDepth 1000000 in
theorem gw_506 : GoodIn lw_tbl [(.code yX12_anyOf cX12_anyOf 1 none : Cond)] := gi_one (mb_7 _ (List.mem_of_getElem? (i := 189) rfl)) (by decide +kernel)
set_option maxRecDepth 1000000 in
theorem gw_501 : GoodIn lw_tbl [(.methodLink RX12 264 yX12_allOf : Cond)] := gi_one (mb_7 _ (List.mem_of_getElem? (i := 190) rfl)) (by decide +kernel)
set_option maxRecDepth 1000000 in
theorem gw_500 : GoodIn lw_tbl [(.instanceMethod yX12_allOf : Cond)] := gi_one (mb_7 _ (List.mem_of_getElem? (i := 192) rfl)) (by decide +kernel)
set_option maxRecDepth 1000000 in
theorem gw_498 : GoodIn lw_tbl [(.code yX12_allOf cX12_allOf 1 none : Cond)] := gi_one (mb_7 _ (List.mem_of_getElem? (i := 193) rfl)) (by decide +kernel)
set_option maxRecDepth 1000000 in
theorem gw_505 : GoodIn lw_tbl [(.methodLink RX12 259 yX12_oneOf : Cond)] := gi_one (mb_7 _ (List.mem_of_getElem? (i := 194) rfl)) (by decide +kernel)
set_option maxRecDepth 1000000 in
theorem gw_504 : GoodIn lw_tbl [(.instanceMethod yX12_oneOf : Cond)] := gi_one (mb_7 _ (List.mem_of_getElem? (i := 196) rfl)) (by decide +kernel)
set_option maxRecDepth 1000000 in
theorem gw_502 : GoodIn lw_tbl [(.code yX12_oneOf cX12_oneOf 2 none : Cond)] := gi_one (mb_7 _ (List.mem_of_getElem? (i := 197) rfl)) (by decide +kernel)
set_option maxRecDepth 1000000 in
theorem gw_488 : GoodIn lw_tbl [(.methodLink RX12 227 yX12_emit : Cond)] := gi_one (mb_7 _ (List.mem_of_getElem? (i := 199) rfl)) (by decide +kernel)
set_option maxRecDepth 1000000 in
theorem gw_487 : GoodIn lw_tbl [(.instanceMethod yX12_emit : Cond)] := gi_one (mb_7 _ (List.mem_of_getElem? (i := 201) rfl)) (by decide +kernel)
set_option maxRecDepth 1000000 in
theorem gw_489 : GoodIn lw_tbl [(.code yX12_emit cX12_emit 3 none : Cond)] := gi_one (mb_7 _ (List.mem_of_getElem? (i := 202) rfl)) (by decide +kernel)
set_option maxRecDepth 1000000 in
theorem gw_480 : GoodIn lw_tbl [(.methodLink RX12 249 yX12_keyword : Cond)] := gi_one (mb_7 _ (List.mem_of_getElem? (i := 206) rfl)) (by decide +kernel)
set_option maxRecDepth 1000000 in
theorem gw_479 : GoodIn lw_tbl [(.instanceMethod yX12_keyword : Cond)] := gi_one (mb_7 _ (List.mem_of_getElem? (i := 208) rfl)) (by decide +kernel)
set_option maxRecDepth 1000000 in
theorem gw_481 : GoodIn lw_tbl [(.code yX12_keyword cX12_keyword 2 none : Cond)] := gi_one (mb_7 _ (List.mem_of_getElem? (i := 209) rfl)) (by decide +kernel)
set_option maxRecDepth 1000000 in
theorem gw_513 : GoodIn lw_tbl [(.methodLink RX12 254 yX12_product : Cond)] := gi_one (mb_7 _ (List.mem_of_getElem? (i := 211) rfl)) (by decide +kernel)
set_option maxRecDepth 1000000 in
theorem gw_512 : GoodIn lw_tbl [(.instanceMethod yX12_product : Cond)] := gi_one (mb_7 _ (List.mem_of_getElem? (i := 213) rfl)) (by decide +kernel)
set_option maxRecDepth 1000000 in
theorem gw_510 : GoodIn lw_tbl [(.code yX12_product cX12_product 2 none : Cond)] := gi_one (mb_7 _ (List.mem_of_getElem? (i := 214) rfl)) (by decide +kernel)
set_option maxRecDepth 1000000 in
theorem gw_517 : GoodIn lw_tbl [(.methodLink RX12 239 yX12_unit : Cond)] := gi_one (mb_7 _ (List.mem_of_getElem? (i := 215) rfl)) (by decide +kernel)
set_option maxRecDepth 1000000 in
theorem gw_516 : GoodIn lw_tbl [(.instanceMethod yX12_unit : Cond)] := gi_one (mb_7 _ (List.mem_of_getElem? (i := 217) rfl)) (by decide +kernel)
set_option maxRecDepth 1000000 in
theorem gw_514 : GoodIn lw_tbl [(.code yX12_unit cX12_unit 3 none : Cond)] := gi_one (mb_7 _ (List.mem_of_getElem? (i := 218) rfl)) (by decide +kernel)
set_option maxRecDepth 1000000 in
theorem gw_496 : GoodIn lw_tbl [(.methodLink RX12 236 yX12_nameHere : Cond)] := gi_one (mb_7 _ (List.mem_of_getElem? (i := 219) rfl)) (by decide +kernel)
set_option maxRecDepth 1000000 in
theorem gw_495 : GoodIn lw_tbl [(.instanceMethod yX12_nameHere : Cond)] := gi_one (mb_7 _ (List.mem_of_getElem? (i := 221) rfl)) (by decide +kernel)
set_option maxRecDepth 1000000 in
theorem gw_497 : GoodIn lw_tbl [(.code yX12_nameHere cX12_nameHere 2 (some .int) : Cond)] := gi_one (mb_7 _ (List.mem_of_getElem? (i := 222) rfl)) (by decide +kernel)
set_option maxRecDepth 1000000 in
theorem gw_539 : GoodIn lw_tbl [(.methodLink RL 144 yX12_told : Cond)] := gi_one (mb_7 _ (List.mem_of_getElem? (i := 229) rfl)) (by decide +kernel)
set_option maxRecDepth 1000000 in
theorem gw_538 : GoodIn lw_tbl [(.instanceMethod yX12_told : Cond)] := gi_one (mb_7 _ (List.mem_of_getElem? (i := 230) rfl)) (by decide +kernel)
set_option maxRecDepth 1000000 in
theorem gw_537 : GoodIn lw_tbl [(.selects RX12 yX12_told yX12_told : Cond)] := gi_one (mb_7 _ (List.mem_of_getElem? (i := 231) rfl)) (by decide +kernel)
set_option maxRecDepth 1000000 in
theorem gw_547 : GoodIn lw_tbl [(.code yX12_told cX12_told 2 (some .int) : Cond)] := gi_one (mb_7 _ (List.mem_of_getElem? (i := 232) rfl)) (by decide +kernel)
set_option maxRecDepth 1000000 in
theorem gw_545 : GoodIn lw_tbl [(.methodLink RX12 279 yX12_within : Cond)] := gi_one (mb_7 _ (List.mem_of_getElem? (i := 233) rfl)) (by decide +kernel)
set_option maxRecDepth 1000000 in
theorem gw_544 : GoodIn lw_tbl [(.static yX12_within : Cond)] := gi_one (mb_7 _ (List.mem_of_getElem? (i := 234) rfl)) (by decide +kernel)
set_option maxRecDepth 1000000 in
theorem gw_546 : GoodIn lw_tbl [(.code yX12_within cX12_within 3 (some .boolean) : Cond)] := gi_one (mb_7 _ (List.mem_of_getElem? (i := 235) rfl)) (by decide +kernel)
set_option maxRecDepth 1000000 in
theorem gw_542 : GoodIn lw_tbl [(.methodLink RX12 283 yX12_drains : Cond)] := gi_one (mb_7 _ (List.mem_of_getElem? (i := 236) rfl)) (by decide +kernel)
set_option maxRecDepth 1000000 in
theorem gw_541 : GoodIn lw_tbl [(.instanceMethod yX12_drains : Cond)] := gi_one (mb_7 _ (List.mem_of_getElem? (i := 238) rfl)) (by decide +kernel)
set_option maxRecDepth 1000000 in
theorem gw_543 : GoodIn lw_tbl [(.code yX12_drains cX12_drains 1 (some .int) : Cond)] := gi_one (mb_7 _ (List.mem_of_getElem? (i := 239) rfl)) (by decide +kernel)
set_option maxRecDepth 1000000 in
theorem gw_570 : GoodIn lw_tbl [(.methodLink RL 148 yX12_cell : Cond)] := gi_one (mb_8 _ (List.mem_of_getElem? (i := 0) rfl)) (by decide +kernel)
set_option maxRecDepth 1000000 in
theorem gw_569 : GoodIn lw_tbl [(.instanceMethod yX12_cell : Cond)] := gi_one (mb_8 _ (List.mem_of_getElem? (i := 1) rfl)) (by decide +kernel)
set_option maxRecDepth 1000000 in
theorem gw_568 : GoodIn lw_tbl [(.selects RX12 yX12_cell yX12_cell : Cond)] := gi_one (mb_8 _ (List.mem_of_getElem? (i := 2) rfl)) (by decide +kernel)
set_option maxRecDepth 1000000 in
theorem gw_582 : GoodIn lw_tbl [(.code yX12_cell cX12_cell 5 (some .int) : Cond)] := gi_one (mb_8 _ (List.mem_of_getElem? (i := 3) rfl)) (by decide +kernel)
set_option maxRecDepth 1000000 in
theorem gw_580 : GoodIn lw_tbl [(.methodLink RX12 286 yX12_isCell : Cond)] := gi_one (mb_8 _ (List.mem_of_getElem? (i := 4) rfl)) (by decide +kernel)
set_option maxRecDepth 1000000 in
theorem gw_579 : GoodIn lw_tbl [(.instanceMethod yX12_isCell : Cond)] := gi_one (mb_8 _ (List.mem_of_getElem? (i := 6) rfl)) (by decide +kernel)
set_option maxRecDepth 1000000 in
theorem gw_581 : GoodIn lw_tbl [(.code yX12_isCell cX12_isCell 4 (some .boolean) : Cond)] := gi_one (mb_8 _ (List.mem_of_getElem? (i := 7) rfl)) (by decide +kernel)
set_option maxRecDepth 1000000 in
theorem gw_576 : GoodIn lw_tbl [(.methodLink RX12 289 yX12_at : Cond)] := gi_one (mb_8 _ (List.mem_of_getElem? (i := 8) rfl)) (by decide +kernel)
set_option maxRecDepth 1000000 in
theorem gw_575 : GoodIn lw_tbl [(.static yX12_at : Cond)] := gi_one (mb_8 _ (List.mem_of_getElem? (i := 9) rfl)) (by decide +kernel)
set_option maxRecDepth 1000000 in
theorem gw_577 : GoodIn lw_tbl [(.code yX12_at cX12_at 2 (some .int) : Cond)] := gi_one (mb_8 _ (List.mem_of_getElem? (i := 10) rfl)) (by decide +kernel)
set_option maxRecDepth 1000000 in
theorem gw_573 : GoodIn lw_tbl [(.methodLink RX12 291 yX12_surface : Cond)] := gi_one (mb_8 _ (List.mem_of_getElem? (i := 11) rfl)) (by decide +kernel)
set_option maxRecDepth 1000000 in
theorem gw_572 : GoodIn lw_tbl [(.instanceMethod yX12_surface : Cond)] := gi_one (mb_8 _ (List.mem_of_getElem? (i := 13) rfl)) (by decide +kernel)
set_option maxRecDepth 1000000 in
theorem gw_574 : GoodIn lw_tbl [(.code yX12_surface cX12_surface 2 (some .int) : Cond)] := gi_one (mb_8 _ (List.mem_of_getElem? (i := 14) rfl)) (by decide +kernel)
set_option maxRecDepth 1000000 in
theorem gw_599 : GoodIn lw_tbl [(.methodLink RL 152 yX12_drain : Cond)] := gi_one (mb_8 _ (List.mem_of_getElem? (i := 15) rfl)) (by decide +kernel)
set_option maxRecDepth 1000000 in
theorem gw_598 : GoodIn lw_tbl [(.instanceMethod yX12_drain : Cond)] := gi_one (mb_8 _ (List.mem_of_getElem? (i := 16) rfl)) (by decide +kernel)
set_option maxRecDepth 1000000 in
theorem gw_597 : GoodIn lw_tbl [(.selects RX12 yX12_drain yX12_drain : Cond)] := gi_one (mb_8 _ (List.mem_of_getElem? (i := 17) rfl)) (by decide +kernel)
set_option maxRecDepth 1000000 in
theorem gw_609 : GoodIn lw_tbl [(.code yX12_drain cX12_drain 3 (some .int) : Cond)] := gi_one (mb_8 _ (List.mem_of_getElem? (i := 18) rfl)) (by decide +kernel)
set_option maxRecDepth 1000000 in
theorem gw_602 : GoodIn lw_tbl [(.methodLink RX12 294 yX12_leavesOf : Cond)] := gi_one (mb_8 _ (List.mem_of_getElem? (i := 19) rfl)) (by decide +kernel)
set_option maxRecDepth 1000000 in
theorem gw_601 : GoodIn lw_tbl [(.instanceMethod yX12_leavesOf : Cond)] := gi_one (mb_8 _ (List.mem_of_getElem? (i := 21) rfl)) (by decide +kernel)
set_option maxRecDepth 1000000 in
theorem gw_603 : GoodIn lw_tbl [(.code yX12_leavesOf cX12_leavesOf 2 (some .int) : Cond)] := gi_one (mb_8 _ (List.mem_of_getElem? (i := 22) rfl)) (by decide +kernel)
set_option maxRecDepth 1000000 in
theorem gw_607 : GoodIn lw_tbl [(.methodLink RX12 297 yX12_drainTold : Cond)] := gi_one (mb_8 _ (List.mem_of_getElem? (i := 23) rfl)) (by decide +kernel)
set_option maxRecDepth 1000000 in
theorem gw_606 : GoodIn lw_tbl [(.instanceMethod yX12_drainTold : Cond)] := gi_one (mb_8 _ (List.mem_of_getElem? (i := 25) rfl)) (by decide +kernel)
set_option maxRecDepth 1000000 in
theorem gw_608 : GoodIn lw_tbl [(.code yX12_drainTold cX12_drainTold 3 (some .int) : Cond)] := gi_one (mb_8 _ (List.mem_of_getElem? (i := 26) rfl)) (by decide +kernel)
set_option maxRecDepth 1000000 in
theorem gw_619 : GoodIn lw_tbl [(.methodLink RL 155 yX12_leaves : Cond)] := gi_one (mb_8 _ (List.mem_of_getElem? (i := 27) rfl)) (by decide +kernel)
set_option maxRecDepth 1000000 in
theorem gw_618 : GoodIn lw_tbl [(.instanceMethod yX12_leaves : Cond)] := gi_one (mb_8 _ (List.mem_of_getElem? (i := 28) rfl)) (by decide +kernel)
set_option maxRecDepth 1000000 in
theorem gw_617 : GoodIn lw_tbl [(.selects RX12 yX12_leaves yX12_leaves : Cond)] := gi_one (mb_8 _ (List.mem_of_getElem? (i := 29) rfl)) (by decide +kernel)
set_option maxRecDepth 1000000 in
theorem gw_620 : GoodIn lw_tbl [(.code yX12_leaves cX12_leaves 4 (some .int) : Cond)] := gi_one (mb_8 _ (List.mem_of_getElem? (i := 30) rfl)) (by decide +kernel)
set_option maxRecDepth 1000000 in
theorem gw_630 : GoodIn lw_tbl [(.methodLink RL 158 yX12_person : Cond)] := gi_one (mb_8 _ (List.mem_of_getElem? (i := 31) rfl)) (by decide +kernel)
set_option maxRecDepth 1000000 in
theorem gw_629 : GoodIn lw_tbl [(.instanceMethod yX12_person : Cond)] := gi_one (mb_8 _ (List.mem_of_getElem? (i := 32) rfl)) (by decide +kernel)
set_option maxRecDepth 1000000 in
theorem gw_628 : GoodIn lw_tbl [(.selects RX12 yX12_person yX12_person : Cond)] := gi_one (mb_8 _ (List.mem_of_getElem? (i := 33) rfl)) (by decide +kernel)
set_option maxRecDepth 1000000 in
theorem gw_631 : GoodIn lw_tbl [(.code yX12_person cX12_person 3 (some .int) : Cond)] := gi_one (mb_8 _ (List.mem_of_getElem? (i := 34) rfl)) (by decide +kernel)
set_option maxRecDepth 1000000 in
theorem gw_641 : GoodIn lw_tbl [(.methodLink RL 161 yX12_work : Cond)] := gi_one (mb_8 _ (List.mem_of_getElem? (i := 35) rfl)) (by decide +kernel)
set_option maxRecDepth 1000000 in
theorem gw_640 : GoodIn lw_tbl [(.instanceMethod yX12_work : Cond)] := gi_one (mb_8 _ (List.mem_of_getElem? (i := 36) rfl)) (by decide +kernel)
set_option maxRecDepth 1000000 in
theorem gw_639 : GoodIn lw_tbl [(.selects RX12 yX12_work yX12_work : Cond)] := gi_one (mb_8 _ (List.mem_of_getElem? (i := 37) rfl)) (by decide +kernel)
set_option maxRecDepth 1000000 in
theorem gw_646 : GoodIn lw_tbl [(.code yX12_work cX12_work 3 (some .int) : Cond)] := gi_one (mb_8 _ (List.mem_of_getElem? (i := 38) rfl)) (by decide +kernel)
set_option maxRecDepth 1000000 in
theorem gw_644 : GoodIn lw_tbl [(.methodLink RX12 300 yX12_isWork : Cond)] := gi_one (mb_8 _ (List.mem_of_getElem? (i := 39) rfl)) (by decide +kernel)
set_option maxRecDepth 1000000 in
theorem gw_643 : GoodIn lw_tbl [(.instanceMethod yX12_isWork : Cond)] := gi_one (mb_8 _ (List.mem_of_getElem? (i := 41) rfl)) (by decide +kernel)
set_option maxRecDepth 1000000 in
theorem gw_645 : GoodIn lw_tbl [(.code yX12_isWork cX12_isWork 2 (some .boolean) : Cond)] := gi_one (mb_8 _ (List.mem_of_getElem? (i := 42) rfl)) (by decide +kernel)
set_option maxRecDepth 1000000 in
theorem gw_667 : GoodIn lw_tbl [(.methodLink RL 164 yX12_does : Cond)] := gi_one (mb_8 _ (List.mem_of_getElem? (i := 43) rfl)) (by decide +kernel)
set_option maxRecDepth 1000000 in
theorem gw_666 : GoodIn lw_tbl [(.instanceMethod yX12_does : Cond)] := gi_one (mb_8 _ (List.mem_of_getElem? (i := 44) rfl)) (by decide +kernel)
set_option maxRecDepth 1000000 in
theorem gw_665 : GoodIn lw_tbl [(.selects RX12 yX12_does yX12_does : Cond)] := gi_one (mb_8 _ (List.mem_of_getElem? (i := 45) rfl)) (by decide +kernel)
set_option maxRecDepth 1000000 in
theorem gw_672 : GoodIn lw_tbl [(.code yX12_does cX12_does 2 (some .int) : Cond)] := gi_one (mb_8 _ (List.mem_of_getElem? (i := 46) rfl)) (by decide +kernel)
set_option maxRecDepth 1000000 in
theorem gw_670 : GoodIn lw_tbl [(.methodLink RX12 303 yX12_works : Cond)] := gi_one (mb_8 _ (List.mem_of_getElem? (i := 47) rfl)) (by decide +kernel)
set_option maxRecDepth 1000000 in
theorem gw_669 : GoodIn lw_tbl [(.instanceMethod yX12_works : Cond)] := gi_one (mb_8 _ (List.mem_of_getElem? (i := 49) rfl)) (by decide +kernel)
set_option maxRecDepth 1000000 in
theorem gw_671 : GoodIn lw_tbl [(.code yX12_works cX12_works 5 none : Cond)] := gi_one (mb_8 _ (List.mem_of_getElem? (i := 50) rfl)) (by decide +kernel)
set_option maxRecDepth 1000000 in
theorem gw_720 : GoodIn lw_tbl [(.methodLink RL 167 yX12_minutes : Cond)] := gi_one (mb_8 _ (List.mem_of_getElem? (i := 51) rfl)) (by decide +kernel)
set_option maxRecDepth 1000000 in
theorem gw_719 : GoodIn lw_tbl [(.instanceMethod yX12_minutes : Cond)] := gi_one (mb_8 _ (List.mem_of_getElem? (i := 52) rfl)) (by decide +kernel)
set_option maxRecDepth 1000000 in
theorem gw_718 : GoodIn lw_tbl [(.selects RX12 yX12_minutes yX12_minutes : Cond)] := gi_one (mb_8 _ (List.mem_of_getElem? (i := 53) rfl)) (by decide +kernel)
set_option maxRecDepth 1000000 in
theorem gw_737 : GoodIn lw_tbl [(.code yX12_minutes cX12_minutes 4 (some .int) : Cond)] := gi_one (mb_8 _ (List.mem_of_getElem? (i := 54) rfl)) (by decide +kernel)
set_option maxRecDepth 1000000 in
theorem gw_735 : GoodIn lw_tbl [(.methodLink RX12 312 yX12_isNow : Cond)] := gi_one (mb_8 _ (List.mem_of_getElem? (i := 55) rfl)) (by decide +kernel)
set_option maxRecDepth 1000000 in
theorem gw_734 : GoodIn lw_tbl [(.instanceMethod yX12_isNow : Cond)] := gi_one (mb_8 _ (List.mem_of_getElem? (i := 57) rfl)) (by decide +kernel)
set_option maxRecDepth 1000000 in
theorem gw_736 : GoodIn lw_tbl [(.code yX12_isNow cX12_isNow 2 (some .boolean) : Cond)] := gi_one (mb_8 _ (List.mem_of_getElem? (i := 58) rfl)) (by decide +kernel)
set_option maxRecDepth 1000000 in
theorem gw_723 : GoodIn lw_tbl [(.methodLink RX12 315 yX12_minute : Cond)] := gi_one (mb_8 _ (List.mem_of_getElem? (i := 59) rfl)) (by decide +kernel)
set_option maxRecDepth 1000000 in
theorem gw_722 : GoodIn lw_tbl [(.instanceMethod yX12_minute : Cond)] := gi_one (mb_8 _ (List.mem_of_getElem? (i := 61) rfl)) (by decide +kernel)
set_option maxRecDepth 1000000 in
theorem gw_732 : GoodIn lw_tbl [(.code yX12_minute cX12_minute 5 none : Cond)] := gi_one (mb_8 _ (List.mem_of_getElem? (i := 62) rfl)) (by decide +kernel)
set_option maxRecDepth 1000000 in
theorem gw_726 : GoodIn lw_tbl [(.methodLink RX12 309 yX12_round : Cond)] := gi_one (mb_8 _ (List.mem_of_getElem? (i := 63) rfl)) (by decide +kernel)
set_option maxRecDepth 1000000 in
theorem gw_725 : GoodIn lw_tbl [(.instanceMethod yX12_round : Cond)] := gi_one (mb_8 _ (List.mem_of_getElem? (i := 65) rfl)) (by decide +kernel)
set_option maxRecDepth 1000000 in
theorem gw_731 : GoodIn lw_tbl [(.code yX12_round cX12_round 7 none : Cond)] := gi_one (mb_8 _ (List.mem_of_getElem? (i := 66) rfl)) (by decide +kernel)
set_option maxRecDepth 1000000 in
theorem gw_729 : GoodIn lw_tbl [(.methodLink RX12 306 yX12_runsTo : Cond)] := gi_one (mb_8 _ (List.mem_of_getElem? (i := 67) rfl)) (by decide +kernel)
set_option maxRecDepth 1000000 in
theorem gw_728 : GoodIn lw_tbl [(.instanceMethod yX12_runsTo : Cond)] := gi_one (mb_8 _ (List.mem_of_getElem? (i := 69) rfl)) (by decide +kernel)
set_option maxRecDepth 1000000 in
theorem gw_730 : GoodIn lw_tbl [(.code yX12_runsTo cX12_runsTo 5 none : Cond)] := gi_one (mb_8 _ (List.mem_of_getElem? (i := 70) rfl)) (by decide +kernel)
set_option maxRecDepth 1000000 in
theorem gw_754 : GoodIn lw_tbl [(.methodLink RL 170 yX12_shower : Cond)] := gi_one (mb_8 _ (List.mem_of_getElem? (i := 71) rfl)) (by decide +kernel)
set_option maxRecDepth 1000000 in
theorem gw_753 : GoodIn lw_tbl [(.instanceMethod yX12_shower : Cond)] := gi_one (mb_8 _ (List.mem_of_getElem? (i := 72) rfl)) (by decide +kernel)
set_option maxRecDepth 1000000 in
theorem gw_752 : GoodIn lw_tbl [(.selects RX12 yX12_shower yX12_shower : Cond)] := gi_one (mb_8 _ (List.mem_of_getElem? (i := 73) rfl)) (by decide +kernel)
set_option maxRecDepth 1000000 in
theorem gw_765 : GoodIn lw_tbl [(.code yX12_shower cX12_shower 2 (some .int) : Cond)] := gi_one (mb_8 _ (List.mem_of_getElem? (i := 74) rfl)) (by decide +kernel)
set_option maxRecDepth 1000000 in
theorem gw_763 : GoodIn lw_tbl [(.methodLink RX12 324 yX12_isRain : Cond)] := gi_one (mb_8 _ (List.mem_of_getElem? (i := 75) rfl)) (by decide +kernel)
set_option maxRecDepth 1000000 in
theorem gw_762 : GoodIn lw_tbl [(.instanceMethod yX12_isRain : Cond)] := gi_one (mb_8 _ (List.mem_of_getElem? (i := 77) rfl)) (by decide +kernel)
set_option maxRecDepth 1000000 in
theorem gw_764 : GoodIn lw_tbl [(.code yX12_isRain cX12_isRain 3 (some .boolean) : Cond)] := gi_one (mb_8 _ (List.mem_of_getElem? (i := 78) rfl)) (by decide +kernel)
set_option maxRecDepth 1000000 in
theorem gw_757 : GoodIn lw_tbl [(.methodLink RX12 328 yX12_showers : Cond)] := gi_one (mb_8 _ (List.mem_of_getElem? (i := 79) rfl)) (by decide +kernel)
set_option maxRecDepth 1000000 in
theorem gw_756 : GoodIn lw_tbl [(.instanceMethod yX12_showers : Cond)] := gi_one (mb_8 _ (List.mem_of_getElem? (i := 81) rfl)) (by decide +kernel)
set_option maxRecDepth 1000000 in
theorem gw_758 : GoodIn lw_tbl [(.code yX12_showers cX12_showers 5 (some .int) : Cond)] := gi_one (mb_8 _ (List.mem_of_getElem? (i := 82) rfl)) (by decide +kernel)
set_option maxRecDepth 1000000 in
theorem gw_778 : GoodIn lw_tbl [(.methodLink RL 173 yX12_sums : Cond)] := gi_one (mb_8 _ (List.mem_of_getElem? (i := 83) rfl)) (by decide +kernel)
set_option maxRecDepth 1000000 in
theorem gw_777 : GoodIn lw_tbl [(.instanceMethod yX12_sums : Cond)] := gi_one (mb_8 _ (List.mem_of_getElem? (i := 84) rfl)) (by decide +kernel)
set_option maxRecDepth 1000000 in
theorem gw_776 : GoodIn lw_tbl [(.selects RX12 yX12_sums yX12_sums : Cond)] := gi_one (mb_8 _ (List.mem_of_getElem? (i := 85) rfl)) (by decide +kernel)
set_option maxRecDepth 1000000 in
theorem gw_783 : GoodIn lw_tbl [(.code yX12_sums cX12_sums 2 (some .int) : Cond)] := gi_one (mb_8 _ (List.mem_of_getElem? (i := 86) rfl)) (by decide +kernel)
set_option maxRecDepth 1000000 in
theorem gw_781 : GoodIn lw_tbl [(.methodLink RX12 331 yX12_standing : Cond)] := gi_one (mb_8 _ (List.mem_of_getElem? (i := 87) rfl)) (by decide +kernel)
set_option maxRecDepth 1000000 in
theorem gw_780 : GoodIn lw_tbl [(.instanceMethod yX12_standing : Cond)] := gi_one (mb_8 _ (List.mem_of_getElem? (i := 89) rfl)) (by decide +kernel)
set_option maxRecDepth 1000000 in
theorem gw_782 : GoodIn lw_tbl [(.code yX12_standing cX12_standing 3 (some .int) : Cond)] := gi_one (mb_8 _ (List.mem_of_getElem? (i := 90) rfl)) (by decide +kernel)
set_option maxRecDepth 1000000 in
theorem gw_805 : GoodIn lw_tbl [(.methodLink RL 177 yX12_says : Cond)] := gi_one (mb_8 _ (List.mem_of_getElem? (i := 91) rfl)) (by decide +kernel)
set_option maxRecDepth 1000000 in
theorem gw_804 : GoodIn lw_tbl [(.instanceMethod yX12_says : Cond)] := gi_one (mb_8 _ (List.mem_of_getElem? (i := 92) rfl)) (by decide +kernel)
set_option maxRecDepth 1000000 in
theorem gw_803 : GoodIn lw_tbl [(.selects RX12 yX12_says yX12_says : Cond)] := gi_one (mb_8 _ (List.mem_of_getElem? (i := 93) rfl)) (by decide +kernel)
set_option maxRecDepth 1000000 in
theorem gw_820 : GoodIn lw_tbl [(.code yX12_says cX12_says 10 (some .int) : Cond)] := gi_one (mb_8 _ (List.mem_of_getElem? (i := 94) rfl)) (by decide +kernel)
set_option maxRecDepth 1000000 in
theorem gw_818 : GoodIn lw_tbl [(.methodLink RX12 334 yX12_isLaw : Cond)] := gi_one (mb_8 _ (List.mem_of_getElem? (i := 95) rfl)) (by decide +kernel)
set_option maxRecDepth 1000000 in
theorem gw_817 : GoodIn lw_tbl [(.instanceMethod yX12_isLaw : Cond)] := gi_one (mb_8 _ (List.mem_of_getElem? (i := 97) rfl)) (by decide +kernel)
set_option maxRecDepth 1000000 in
theorem gw_819 : GoodIn lw_tbl [(.code yX12_isLaw cX12_isLaw 3 (some .boolean) : Cond)] := gi_one (mb_8 _ (List.mem_of_getElem? (i := 98) rfl)) (by decide +kernel)
set_option maxRecDepth 1000000 in
theorem gw_814 : GoodIn lw_tbl [(.methodLink RX12 337 yX12_name : Cond)] := gi_one (mb_8 _ (List.mem_of_getElem? (i := 99) rfl)) (by decide +kernel)
set_option maxRecDepth 1000000 in
theorem gw_813 : GoodIn lw_tbl [(.instanceMethod yX12_name : Cond)] := gi_one (mb_8 _ (List.mem_of_getElem? (i := 101) rfl)) (by decide +kernel)
set_option maxRecDepth 1000000 in
theorem gw_815 : GoodIn lw_tbl [(.code yX12_name cX12_name 6 none : Cond)] := gi_one (mb_8 _ (List.mem_of_getElem? (i := 102) rfl)) (by decide +kernel)
set_option maxRecDepth 1000000 in
theorem gw_808 : GoodIn lw_tbl [(.methodLink RX12 341 yX12_worked : Cond)] := gi_one (mb_8 _ (List.mem_of_getElem? (i := 103) rfl)) (by decide +kernel)
set_option maxRecDepth 1000000 in
theorem gw_807 : GoodIn lw_tbl [(.instanceMethod yX12_worked : Cond)] := gi_one (mb_8 _ (List.mem_of_getElem? (i := 105) rfl)) (by decide +kernel)
set_option maxRecDepth 1000000 in
theorem gw_809 : GoodIn lw_tbl [(.code yX12_worked cX12_worked 8 (some .int) : Cond)] := gi_one (mb_8 _ (List.mem_of_getElem? (i := 106) rfl)) (by decide +kernel)
set_option maxRecDepth 1000000 in
theorem gw_869 : GoodIn lw_tbl [(.methodLink RL 181 yX12_car : Cond)] := gi_one (mb_8 _ (List.mem_of_getElem? (i := 107) rfl)) (by decide +kernel)
set_option maxRecDepth 1000000 in
theorem gw_868 : GoodIn lw_tbl [(.instanceMethod yX12_car : Cond)] := gi_one (mb_8 _ (List.mem_of_getElem? (i := 108) rfl)) (by decide +kernel)
set_option maxRecDepth 1000000 in
theorem gw_867 : GoodIn lw_tbl [(.selects RX12 yX12_car yX12_car : Cond)] := gi_one (mb_8 _ (List.mem_of_getElem? (i := 109) rfl)) (by decide +kernel)
set_option maxRecDepth 1000000 in
theorem gw_903 : GoodIn lw_tbl [(.code yX12_car cX12_car 6 (some .int) : Cond)] := gi_one (mb_8 _ (List.mem_of_getElem? (i := 110) rfl)) (by decide +kernel)
set_option maxRecDepth 1000000 in
theorem gw_901 : GoodIn lw_tbl [(.methodLink RX12 367 yX12_isCar : Cond)] := gi_one (mb_8 _ (List.mem_of_getElem? (i := 111) rfl)) (by decide +kernel)
set_option maxRecDepth 1000000 in
theorem gw_900 : GoodIn lw_tbl [(.instanceMethod yX12_isCar : Cond)] := gi_one (mb_8 _ (List.mem_of_getElem? (i := 113) rfl)) (by decide +kernel)
set_option maxRecDepth 1000000 in
theorem gw_902 : GoodIn lw_tbl [(.code yX12_isCar cX12_isCar 5 (some .boolean) : Cond)] := gi_one (mb_8 _ (List.mem_of_getElem? (i := 114) rfl)) (by decide +kernel)
set_option maxRecDepth 1000000 in
theorem gw_897 : GoodIn lw_tbl [(.methodLink RX12 371 yX12_isStreet : Cond)] := gi_one (mb_8 _ (List.mem_of_getElem? (i := 115) rfl)) (by decide +kernel)
set_option maxRecDepth 1000000 in
theorem gw_896 : GoodIn lw_tbl [(.instanceMethod yX12_isStreet : Cond)] := gi_one (mb_8 _ (List.mem_of_getElem? (i := 117) rfl)) (by decide +kernel)
set_option maxRecDepth 1000000 in
theorem gw_898 : GoodIn lw_tbl [(.code yX12_isStreet cX12_isStreet 2 (some .boolean) : Cond)] := gi_one (mb_8 _ (List.mem_of_getElem? (i := 118) rfl)) (by decide +kernel)
set_option maxRecDepth 1000000 in
theorem gw_872 : GoodIn lw_tbl [(.methodLink RX12 374 yX12_passes : Cond)] := gi_one (mb_8 _ (List.mem_of_getElem? (i := 119) rfl)) (by decide +kernel)
set_option maxRecDepth 1000000 in
theorem gw_871 : GoodIn lw_tbl [(.instanceMethod yX12_passes : Cond)] := gi_one (mb_8 _ (List.mem_of_getElem? (i := 121) rfl)) (by decide +kernel)
set_option maxRecDepth 1000000 in
theorem gw_894 : GoodIn lw_tbl [(.code yX12_passes cX12_passes 13 (some .int) : Cond)] := gi_one (mb_8 _ (List.mem_of_getElem? (i := 122) rfl)) (by decide +kernel)
set_option maxRecDepth 1000000 in
theorem gw_886 : GoodIn lw_tbl [(.methodLink RX12 360 yX12_drives : Cond)] := gi_one (mb_8 _ (List.mem_of_getElem? (i := 123) rfl)) (by decide +kernel)
set_option maxRecDepth 1000000 in
theorem gw_885 : GoodIn lw_tbl [(.instanceMethod yX12_drives : Cond)] := gi_one (mb_8 _ (List.mem_of_getElem? (i := 125) rfl)) (by decide +kernel)
set_option maxRecDepth 1000000 in
theorem gw_891 : GoodIn lw_tbl [(.code yX12_drives cX12_drives 7 none : Cond)] := gi_one (mb_8 _ (List.mem_of_getElem? (i := 126) rfl)) (by decide +kernel)
set_option maxRecDepth 1000000 in
theorem gw_882 : GoodIn lw_tbl [(.methodLink RX12 347 yX12_peopleAt : Cond)] := gi_one (mb_8 _ (List.mem_of_getElem? (i := 127) rfl)) (by decide +kernel)
set_option maxRecDepth 1000000 in
theorem gw_881 : GoodIn lw_tbl [(.instanceMethod yX12_peopleAt : Cond)] := gi_one (mb_8 _ (List.mem_of_getElem? (i := 129) rfl)) (by decide +kernel)
set_option maxRecDepth 1000000 in
theorem gw_883 : GoodIn lw_tbl [(.code yX12_peopleAt cX12_peopleAt 4 (some .int) : Cond)] := gi_one (mb_8 _ (List.mem_of_getElem? (i := 130) rfl)) (by decide +kernel)
set_option maxRecDepth 1000000 in
theorem gw_889 : GoodIn lw_tbl [(.methodLink RX12 350 yX12_heldSum : Cond)] := gi_one (mb_8 _ (List.mem_of_getElem? (i := 131) rfl)) (by decide +kernel)
set_option maxRecDepth 1000000 in
theorem gw_888 : GoodIn lw_tbl [(.instanceMethod yX12_heldSum : Cond)] := gi_one (mb_8 _ (List.mem_of_getElem? (i := 133) rfl)) (by decide +kernel)
set_option maxRecDepth 1000000 in
theorem gw_890 : GoodIn lw_tbl [(.code yX12_heldSum cX12_heldSum 5 (some .int) : Cond)] := gi_one (mb_8 _ (List.mem_of_getElem? (i := 134) rfl)) (by decide +kernel)
set_option maxRecDepth 1000000 in
theorem gw_878 : GoodIn lw_tbl [(.methodLink RX12 356 yX12_held : Cond)] := gi_one (mb_8 _ (List.mem_of_getElem? (i := 135) rfl)) (by decide +kernel)
set_option maxRecDepth 1000000 in
theorem gw_877 : GoodIn lw_tbl [(.static yX12_held : Cond)] := gi_one (mb_8 _ (List.mem_of_getElem? (i := 136) rfl)) (by decide +kernel)
set_option maxRecDepth 1000000 in
theorem gw_879 : GoodIn lw_tbl [(.code yX12_held cX12_held 3 (some .int) : Cond)] := gi_one (mb_8 _ (List.mem_of_getElem? (i := 137) rfl)) (by decide +kernel)
set_option maxRecDepth 1000000 in
theorem gw_875 : GoodIn lw_tbl [(.methodLink RX12 364 yX12_isSheltered : Cond)] := gi_one (mb_8 _ (List.mem_of_getElem? (i := 138) rfl)) (by decide +kernel)
set_option maxRecDepth 1000000 in
theorem gw_874 : GoodIn lw_tbl [(.instanceMethod yX12_isSheltered : Cond)] := gi_one (mb_8 _ (List.mem_of_getElem? (i := 140) rfl)) (by decide +kernel)
set_option maxRecDepth 1000000 in
theorem gw_876 : GoodIn lw_tbl [(.code yX12_isSheltered cX12_isSheltered 3 (some .boolean) : Cond)] := gi_one (mb_8 _ (List.mem_of_getElem? (i := 141) rfl)) (by decide +kernel)
set_option maxRecDepth 1000000 in
theorem gw_917 : GoodIn lw_tbl [(.methodLink RL 184 yX12_traffic : Cond)] := gi_one (mb_8 _ (List.mem_of_getElem? (i := 142) rfl)) (by decide +kernel)
set_option maxRecDepth 1000000 in
theorem gw_916 : GoodIn lw_tbl [(.instanceMethod yX12_traffic : Cond)] := gi_one (mb_8 _ (List.mem_of_getElem? (i := 143) rfl)) (by decide +kernel)
set_option maxRecDepth 1000000 in
theorem gw_915 : GoodIn lw_tbl [(.selects RX12 yX12_traffic yX12_traffic : Cond)] := gi_one (mb_8 _ (List.mem_of_getElem? (i := 144) rfl)) (by decide +kernel)
set_option maxRecDepth 1000000 in
theorem gw_918 : GoodIn lw_tbl [(.code yX12_traffic cX12_traffic 7 (some .int) : Cond)] := gi_one (mb_8 _ (List.mem_of_getElem? (i := 145) rfl)) (by decide +kernel)
set_option maxRecDepth 1000000 in
theorem gw_933 : GoodIn lw_tbl [(.methodLink RL 187 yX12_pass_ : Cond)] := gi_one (mb_8 _ (List.mem_of_getElem? (i := 146) rfl)) (by decide +kernel)
set_option maxRecDepth 1000000 in
theorem gw_932 : GoodIn lw_tbl [(.instanceMethod yX12_pass_ : Cond)] := gi_one (mb_8 _ (List.mem_of_getElem? (i := 147) rfl)) (by decide +kernel)
set_option maxRecDepth 1000000 in
theorem gw_931 : GoodIn lw_tbl [(.selects RX12 yX12_pass_ yX12_pass_ : Cond)] := gi_one (mb_8 _ (List.mem_of_getElem? (i := 148) rfl)) (by decide +kernel)
set_option maxRecDepth 1000000 in
theorem gw_938 : GoodIn lw_tbl [(.code yX12_pass_ cX12_pass_ 2 (some .int) : Cond)] := gi_one (mb_8 _ (List.mem_of_getElem? (i := 149) rfl)) (by decide +kernel)
set_option maxRecDepth 1000000 in
theorem gw_936 : GoodIn lw_tbl [(.methodLink RX12 378 yX12_allPass : Cond)] := gi_one (mb_8 _ (List.mem_of_getElem? (i := 150) rfl)) (by decide +kernel)
set_option maxRecDepth 1000000 in
theorem gw_935 : GoodIn lw_tbl [(.instanceMethod yX12_allPass : Cond)] := gi_one (mb_8 _ (List.mem_of_getElem? (i := 152) rfl)) (by decide +kernel)
set_option maxRecDepth 1000000 in
theorem gw_937 : GoodIn lw_tbl [(.code yX12_allPass cX12_allPass 6 (some .int) : Cond)] := gi_one (mb_8 _ (List.mem_of_getElem? (i := 153) rfl)) (by decide +kernel)
set_option maxRecDepth 1000000 in
theorem gw_945 : GoodIn lw_tbl [(.methodLink RL 191 yX12_clear : Cond)] := gi_one (mb_8 _ (List.mem_of_getElem? (i := 154) rfl)) (by decide +kernel)
set_option maxRecDepth 1000000 in
theorem gw_944 : GoodIn lw_tbl [(.instanceMethod yX12_clear : Cond)] := gi_one (mb_8 _ (List.mem_of_getElem? (i := 155) rfl)) (by decide +kernel)
set_option maxRecDepth 1000000 in
theorem gw_943 : GoodIn lw_tbl [(.selects RX12 yX12_clear yX12_clear : Cond)] := gi_one (mb_8 _ (List.mem_of_getElem? (i := 156) rfl)) (by decide +kernel)
set_option maxRecDepth 1000000 in
theorem gw_946 : GoodIn lw_tbl [(.code yX12_clear cX12_clear 2 (some .int) : Cond)] := gi_one (mb_8 _ (List.mem_of_getElem? (i := 157) rfl)) (by decide +kernel)
set_option maxRecDepth 1000000 in
theorem gw_967 : GoodIn lw_tbl [(.methodLink RL 194 yX12_deep : Cond)] := gi_one (mb_8 _ (List.mem_of_getElem? (i := 158) rfl)) (by decide +kernel)
set_option maxRecDepth 1000000 in
theorem gw_966 : GoodIn lw_tbl [(.instanceMethod yX12_deep : Cond)] := gi_one (mb_8 _ (List.mem_of_getElem? (i := 159) rfl)) (by decide +kernel)
set_option maxRecDepth 1000000 in
theorem gw_965 : GoodIn lw_tbl [(.selects RX12 yX12_deep yX12_deep : Cond)] := gi_one (mb_8 _ (List.mem_of_getElem? (i := 160) rfl)) (by decide +kernel)
set_option maxRecDepth 1000000 in
theorem gw_981 : GoodIn lw_tbl [(.code yX12_deep cX12_deep 5 (some .int) : Cond)] := gi_one (mb_8 _ (List.mem_of_getElem? (i := 161) rfl)) (by decide +kernel)
set_option maxRecDepth 1000000 in
theorem gw_979 : GoodIn lw_tbl [(.methodLink RX12 381 yX12_keeps : Cond)] := gi_one (mb_8 _ (List.mem_of_getElem? (i := 162) rfl)) (by decide +kernel)
set_option maxRecDepth 1000000 in
theorem gw_978 : GoodIn lw_tbl [(.instanceMethod yX12_keeps : Cond)] := gi_one (mb_8 _ (List.mem_of_getElem? (i := 164) rfl)) (by decide +kernel)
set_option maxRecDepth 1000000 in
theorem gw_980 : GoodIn lw_tbl [(.code yX12_keeps cX12_keeps 2 none : Cond)] := gi_one (mb_8 _ (List.mem_of_getElem? (i := 165) rfl)) (by decide +kernel)
set_option maxRecDepth 1000000 in
theorem gw_975 : GoodIn lw_tbl [(.methodLink RX12 384 yX12_deepBehind : Cond)] := gi_one (mb_8 _ (List.mem_of_getElem? (i := 166) rfl)) (by decide +kernel)
set_option maxRecDepth 1000000 in
theorem gw_974 : GoodIn lw_tbl [(.instanceMethod yX12_deepBehind : Cond)] := gi_one (mb_8 _ (List.mem_of_getElem? (i := 168) rfl)) (by decide +kernel)
set_option maxRecDepth 1000000 in
theorem gw_976 : GoodIn lw_tbl [(.code yX12_deepBehind cX12_deepBehind 3 (some .int) : Cond)] := gi_one (mb_8 _ (List.mem_of_getElem? (i := 169) rfl)) (by decide +kernel)
set_option maxRecDepth 1000000 in
theorem gw_970 : GoodIn lw_tbl [(.methodLink RX12 387 yX12_comesBack : Cond)] := gi_one (mb_8 _ (List.mem_of_getElem? (i := 170) rfl)) (by decide +kernel)
set_option maxRecDepth 1000000 in
theorem gw_969 : GoodIn lw_tbl [(.instanceMethod yX12_comesBack : Cond)] := gi_one (mb_8 _ (List.mem_of_getElem? (i := 172) rfl)) (by decide +kernel)
set_option maxRecDepth 1000000 in
theorem gw_971 : GoodIn lw_tbl [(.code yX12_comesBack cX12_comesBack 2 none : Cond)] := gi_one (mb_8 _ (List.mem_of_getElem? (i := 173) rfl)) (by decide +kernel)
set_option maxRecDepth 1000000 in
theorem gw_994 : GoodIn lw_tbl [(.methodLink RL 198 yX12_when : Cond)] := gi_one (mb_8 _ (List.mem_of_getElem? (i := 174) rfl)) (by decide +kernel)
set_option maxRecDepth 1000000 in
theorem gw_993 : GoodIn lw_tbl [(.instanceMethod yX12_when : Cond)] := gi_one (mb_8 _ (List.mem_of_getElem? (i := 175) rfl)) (by decide +kernel)
set_option maxRecDepth 1000000 in
theorem gw_992 : GoodIn lw_tbl [(.selects RX12 yX12_when yX12_when : Cond)] := gi_one (mb_8 _ (List.mem_of_getElem? (i := 176) rfl)) (by decide +kernel)
set_option maxRecDepth 1000000 in
theorem gw_995 : GoodIn lw_tbl [(.code yX12_when cX12_when 8 (some .int) : Cond)] := gi_one (mb_8 _ (List.mem_of_getElem? (i := 177) rfl)) (by decide +kernel)
set_option maxRecDepth 1000000 in
theorem gw_1013 : GoodIn lw_tbl [(.methodLink RL 201 yX12_blame : Cond)] := gi_one (mb_8 _ (List.mem_of_getElem? (i := 178) rfl)) (by decide +kernel)
set_option maxRecDepth 1000000 in
theorem gw_1012 : GoodIn lw_tbl [(.instanceMethod yX12_blame : Cond)] := gi_one (mb_8 _ (List.mem_of_getElem? (i := 179) rfl)) (by decide +kernel)
set_option maxRecDepth 1000000 in
theorem gw_1011 : GoodIn lw_tbl [(.selects RX12 yX12_blame yX12_blame : Cond)] := gi_one (mb_8 _ (List.mem_of_getElem? (i := 180) rfl)) (by decide +kernel)
set_option maxRecDepth 1000000 in
theorem gw_1014 : GoodIn lw_tbl [(.code yX12_blame cX12_blame 10 (some .int) : Cond)] := gi_one (mb_8 _ (List.mem_of_getElem? (i := 181) rfl)) (by decide +kernel)
set_option maxRecDepth 1000000 in
theorem gw_1033 : GoodIn lw_tbl [(.methodLink RL 204 yX12_look : Cond)] := gi_one (mb_8 _ (List.mem_of_getElem? (i := 182) rfl)) (by decide +kernel)
set_option maxRecDepth 1000000 in
theorem gw_1032 : GoodIn lw_tbl [(.instanceMethod yX12_look : Cond)] := gi_one (mb_8 _ (List.mem_of_getElem? (i := 183) rfl)) (by decide +kernel)
set_option maxRecDepth 1000000 in
theorem gw_1031 : GoodIn lw_tbl [(.selects RX12 yX12_look yX12_look : Cond)] := gi_one (mb_8 _ (List.mem_of_getElem? (i := 184) rfl)) (by decide +kernel)
set_option maxRecDepth 1000000 in
theorem gw_1039 : GoodIn lw_tbl [(.code yX12_look cX12_look 8 (some .int) : Cond)] := gi_one (mb_8 _ (List.mem_of_getElem? (i := 185) rfl)) (by decide +kernel)
set_option maxRecDepth 1000000 in
theorem gw_1036 : GoodIn lw_tbl [(.methodLink RX12 390 yX12_kindsOf : Cond)] := gi_one (mb_8 _ (List.mem_of_getElem? (i := 186) rfl)) (by decide +kernel)
set_option maxRecDepth 1000000 in
theorem gw_1035 : GoodIn lw_tbl [(.instanceMethod yX12_kindsOf : Cond)] := gi_one (mb_8 _ (List.mem_of_getElem? (i := 188) rfl)) (by decide +kernel)
set_option maxRecDepth 1000000 in
theorem gw_1037 : GoodIn lw_tbl [(.code yX12_kindsOf cX12_kindsOf 6 (some .int) : Cond)] := gi_one (mb_8 _ (List.mem_of_getElem? (i := 189) rfl)) (by decide +kernel)
set_option maxRecDepth 1000000 in
theorem gw_1057 : GoodIn lw_tbl [(.methodLink RL 207 yX12_stand : Cond)] := gi_one (mb_8 _ (List.mem_of_getElem? (i := 190) rfl)) (by decide +kernel)
set_option maxRecDepth 1000000 in
theorem gw_1056 : GoodIn lw_tbl [(.instanceMethod yX12_stand : Cond)] := gi_one (mb_8 _ (List.mem_of_getElem? (i := 191) rfl)) (by decide +kernel)
set_option maxRecDepth 1000000 in
theorem gw_1055 : GoodIn lw_tbl [(.selects RX12 yX12_stand yX12_stand : Cond)] := gi_one (mb_8 _ (List.mem_of_getElem? (i := 192) rfl)) (by decide +kernel)
set_option maxRecDepth 1000000 in
theorem gw_1058 : GoodIn lw_tbl [(.code yX12_stand cX12_stand 10 (some .int) : Cond)] := gi_one (mb_8 _ (List.mem_of_getElem? (i := 193) rfl)) (by decide +kernel)
set_option maxRecDepth 1000000 in
theorem gw_1071 : GoodIn lw_tbl [(.methodLink RL 210 yX12_pace : Cond)] := gi_one (mb_8 _ (List.mem_of_getElem? (i := 194) rfl)) (by decide +kernel)
set_option maxRecDepth 1000000 in
theorem gw_1070 : GoodIn lw_tbl [(.instanceMethod yX12_pace : Cond)] := gi_one (mb_8 _ (List.mem_of_getElem? (i := 195) rfl)) (by decide +kernel)
set_option maxRecDepth 1000000 in
theorem gw_1069 : GoodIn lw_tbl [(.selects RX12 yX12_pace yX12_pace : Cond)] := gi_one (mb_8 _ (List.mem_of_getElem? (i := 196) rfl)) (by decide +kernel)
set_option maxRecDepth 1000000 in
theorem gw_1072 : GoodIn lw_tbl [(.code yX12_pace cX12_pace 7 (some .int) : Cond)] := gi_one (mb_8 _ (List.mem_of_getElem? (i := 197) rfl)) (by decide +kernel)
set_option maxRecDepth 1000000 in
theorem gw_1091 : GoodIn lw_tbl [(.methodLink RL 213 yX12_moved : Cond)] := gi_one (mb_8 _ (List.mem_of_getElem? (i := 198) rfl)) (by decide +kernel)
set_option maxRecDepth 1000000 in
theorem gw_1090 : GoodIn lw_tbl [(.instanceMethod yX12_moved : Cond)] := gi_one (mb_8 _ (List.mem_of_getElem? (i := 199) rfl)) (by decide +kernel)
set_option maxRecDepth 1000000 in
theorem gw_1089 : GoodIn lw_tbl [(.selects RX12 yX12_moved yX12_moved : Cond)] := gi_one (mb_8 _ (List.mem_of_getElem? (i := 200) rfl)) (by decide +kernel)
set_option maxRecDepth 1000000 in
theorem gw_1096 : GoodIn lw_tbl [(.code yX12_moved cX12_moved 7 (some .int) : Cond)] := gi_one (mb_8 _ (List.mem_of_getElem? (i := 201) rfl)) (by decide +kernel)
set_option maxRecDepth 1000000 in
theorem gw_1094 : GoodIn lw_tbl [(.methodLink RX12 393 yX12_mayStep : Cond)] := gi_one (mb_8 _ (List.mem_of_getElem? (i := 202) rfl)) (by decide +kernel)
set_option maxRecDepth 1000000 in
theorem gw_1093 : GoodIn lw_tbl [(.instanceMethod yX12_mayStep : Cond)] := gi_one (mb_8 _ (List.mem_of_getElem? (i := 204) rfl)) (by decide +kernel)
set_option maxRecDepth 1000000 in
theorem gw_1095 : GoodIn lw_tbl [(.code yX12_mayStep cX12_mayStep 3 (some .boolean) : Cond)] := gi_one (mb_8 _ (List.mem_of_getElem? (i := 205) rfl)) (by decide +kernel)
set_option maxRecDepth 1000000 in
theorem gw_1120 : GoodIn lw_tbl [(.methodLink RL 216 yX12_mend : Cond)] := gi_one (mb_8 _ (List.mem_of_getElem? (i := 206) rfl)) (by decide +kernel)
set_option maxRecDepth 1000000 in
theorem gw_1119 : GoodIn lw_tbl [(.instanceMethod yX12_mend : Cond)] := gi_one (mb_8 _ (List.mem_of_getElem? (i := 207) rfl)) (by decide +kernel)
set_option maxRecDepth 1000000 in
theorem gw_1118 : GoodIn lw_tbl [(.selects RX12 yX12_mend yX12_mend : Cond)] := gi_one (mb_8 _ (List.mem_of_getElem? (i := 208) rfl)) (by decide +kernel)
set_option maxRecDepth 1000000 in
theorem gw_1121 : GoodIn lw_tbl [(.code yX12_mend cX12_mend 12 (some .int) : Cond)] := gi_one (mb_8 _ (List.mem_of_getElem? (i := 209) rfl)) (by decide +kernel)
set_option maxRecDepth 1000000 in
theorem gw_1131 : GoodIn lw_tbl [(.methodLink RL 219 yX12_share : Cond)] := gi_one (mb_8 _ (List.mem_of_getElem? (i := 210) rfl)) (by decide +kernel)
set_option maxRecDepth 1000000 in
theorem gw_1130 : GoodIn lw_tbl [(.instanceMethod yX12_share : Cond)] := gi_one (mb_8 _ (List.mem_of_getElem? (i := 211) rfl)) (by decide +kernel)
set_option maxRecDepth 1000000 in
theorem gw_1129 : GoodIn lw_tbl [(.selects RX12 yX12_share yX12_share : Cond)] := gi_one (mb_8 _ (List.mem_of_getElem? (i := 212) rfl)) (by decide +kernel)
set_option maxRecDepth 1000000 in
theorem gw_1132 : GoodIn lw_tbl [(.code yX12_share cX12_share 4 (some .int) : Cond)] := gi_one (mb_8 _ (List.mem_of_getElem? (i := 213) rfl)) (by decide +kernel)
set_option maxRecDepth 1000000 in
theorem gw_1145 : GoodIn lw_tbl [(.methodLink RL 223 yX12_meant : Cond)] := gi_one (mb_8 _ (List.mem_of_getElem? (i := 214) rfl)) (by decide +kernel)
set_option maxRecDepth 1000000 in
theorem gw_1144 : GoodIn lw_tbl [(.instanceMethod yX12_meant : Cond)] := gi_one (mb_8 _ (List.mem_of_getElem? (i := 215) rfl)) (by decide +kernel)
set_option maxRecDepth 1000000 in
theorem gw_1143 : GoodIn lw_tbl [(.selects RX12 yX12_meant yX12_meant : Cond)] := gi_one (mb_8 _ (List.mem_of_getElem? (i := 216) rfl)) (by decide +kernel)
set_option maxRecDepth 1000000 in
theorem gw_1146 : GoodIn lw_tbl [(.code yX12_meant cX12_meant 11 (some .int) : Cond)] := gi_one (mb_8 _ (List.mem_of_getElem? (i := 217) rfl)) (by decide +kernel)
set_option maxRecDepth 1000000 in
theorem gw_1160 : GoodIn lw_tbl [(.methodLink RL 226 yX12_dip : Cond)] := gi_one (mb_8 _ (List.mem_of_getElem? (i := 218) rfl)) (by decide +kernel)
set_option maxRecDepth 1000000 in
theorem gw_1159 : GoodIn lw_tbl [(.instanceMethod yX12_dip : Cond)] := gi_one (mb_8 _ (List.mem_of_getElem? (i := 219) rfl)) (by decide +kernel)
set_option maxRecDepth 1000000 in
theorem gw_1158 : GoodIn lw_tbl [(.selects RX12 yX12_dip yX12_dip : Cond)] := gi_one (mb_8 _ (List.mem_of_getElem? (i := 220) rfl)) (by decide +kernel)
set_option maxRecDepth 1000000 in
theorem gw_1161 : GoodIn lw_tbl [(.code yX12_dip cX12_dip 5 (some .int) : Cond)] := gi_one (mb_8 _ (List.mem_of_getElem? (i := 221) rfl)) (by decide +kernel)
set_option maxRecDepth 1000000 in
theorem gw_1193 : GoodIn lw_tbl [(.methodLink RL 229 yX12_town : Cond)] := gi_one (mb_8 _ (List.mem_of_getElem? (i := 222) rfl)) (by decide +kernel)
set_option maxRecDepth 1000000 in
theorem gw_1192 : GoodIn lw_tbl [(.instanceMethod yX12_town : Cond)] := gi_one (mb_8 _ (List.mem_of_getElem? (i := 223) rfl)) (by decide +kernel)
set_option maxRecDepth 1000000 in
theorem gw_1191 : GoodIn lw_tbl [(.selects RX12 yX12_town yX12_town : Cond)] := gi_one (mb_8 _ (List.mem_of_getElem? (i := 224) rfl)) (by decide +kernel)
set_option maxRecDepth 1000000 in
theorem gw_1204 : GoodIn lw_tbl [(.code yX12_town cX12_town 6 (some .int) : Cond)] := gi_one (mb_8 _ (List.mem_of_getElem? (i := 225) rfl)) (by decide +kernel)
set_option maxRecDepth 1000000 in
theorem gw_1196 : GoodIn lw_tbl [(.methodLink RX12 400 yX12_doing : Cond)] := gi_one (mb_8 _ (List.mem_of_getElem? (i := 226) rfl)) (by decide +kernel)
set_option maxRecDepth 1000000 in
theorem gw_1195 : GoodIn lw_tbl [(.instanceMethod yX12_doing : Cond)] := gi_one (mb_8 _ (List.mem_of_getElem? (i := 228) rfl)) (by decide +kernel)
set_option maxRecDepth 1000000 in
theorem gw_1201 : GoodIn lw_tbl [(.code yX12_doing cX12_doing 4 (some .int) : Cond)] := gi_one (mb_8 _ (List.mem_of_getElem? (i := 229) rfl)) (by decide +kernel)
set_option maxRecDepth 1000000 in
theorem gw_1199 : GoodIn lw_tbl [(.methodLink RX12 396 yX12_daysOf : Cond)] := gi_one (mb_8 _ (List.mem_of_getElem? (i := 230) rfl)) (by decide +kernel)
set_option maxRecDepth 1000000 in
theorem gw_1198 : GoodIn lw_tbl [(.instanceMethod yX12_daysOf : Cond)] := gi_one (mb_8 _ (List.mem_of_getElem? (i := 232) rfl)) (by decide +kernel)
set_option maxRecDepth 1000000 in
theorem gw_1200 : GoodIn lw_tbl [(.code yX12_daysOf cX12_daysOf 4 (some .int) : Cond)] := gi_one (mb_8 _ (List.mem_of_getElem? (i := 233) rfl)) (by decide +kernel)
set_option maxRecDepth 1000000 in
theorem gw_1230 : GoodIn lw_tbl [(.methodLink RL 232 yX12_sweep : Cond)] := gi_one (mb_8 _ (List.mem_of_getElem? (i := 235) rfl)) (by decide +kernel)
set_option maxRecDepth 1000000 in
theorem gw_1229 : GoodIn lw_tbl [(.instanceMethod yX12_sweep : Cond)] := gi_one (mb_8 _ (List.mem_of_getElem? (i := 236) rfl)) (by decide +kernel)
set_option maxRecDepth 1000000 in
theorem gw_1228 : GoodIn lw_tbl [(.selects RX12 yX12_sweep yX12_sweep : Cond)] := gi_one (mb_8 _ (List.mem_of_getElem? (i := 237) rfl)) (by decide +kernel)
set_option maxRecDepth 1000000 in
theorem gw_1240 : GoodIn lw_tbl [(.code yX12_sweep cX12_sweep 2 (some .int) : Cond)] := gi_one (mb_8 _ (List.mem_of_getElem? (i := 238) rfl)) (by decide +kernel)
set_option maxRecDepth 1000000 in
theorem gw_1233 : GoodIn lw_tbl [(.methodLink RX12 406 yX12_sweeps : Cond)] := gi_one (mb_8 _ (List.mem_of_getElem? (i := 239) rfl)) (by decide +kernel)
set_option maxRecDepth 1000000 in
theorem gw_1232 : GoodIn lw_tbl [(.instanceMethod yX12_sweeps : Cond)] := gi_one (mb_9 _ (List.mem_of_getElem? (i := 1) rfl)) (by decide +kernel)
set_option maxRecDepth 1000000 in
theorem gw_1237 : GoodIn lw_tbl [(.code yX12_sweeps cX12_sweeps 10 none : Cond)] := gi_one (mb_9 _ (List.mem_of_getElem? (i := 2) rfl)) (by decide +kernel)
set_option maxRecDepth 1000000 in
theorem gw_1235 : GoodIn lw_tbl [(.methodLink RX12 403 yX12_off : Cond)] := gi_one (mb_9 _ (List.mem_of_getElem? (i := 3) rfl)) (by decide +kernel)
set_option maxRecDepth 1000000 in
theorem gw_1234 : GoodIn lw_tbl [(.static yX12_off : Cond)] := gi_one (mb_9 _ (List.mem_of_getElem? (i := 4) rfl)) (by decide +kernel)
set_option maxRecDepth 1000000 in
theorem gw_1236 : GoodIn lw_tbl [(.code yX12_off cX12_off 1 (some .int) : Cond)] := gi_one (mb_9 _ (List.mem_of_getElem? (i := 5) rfl)) (by decide +kernel)
set_option maxRecDepth 1000000 in
theorem gw_1260 : GoodIn lw_tbl [(.methodLink RL 235 yX12_ice : Cond)] := gi_one (mb_9 _ (List.mem_of_getElem? (i := 6) rfl)) (by decide +kernel)
set_option maxRecDepth 1000000 in
theorem gw_1259 : GoodIn lw_tbl [(.instanceMethod yX12_ice : Cond)] := gi_one (mb_9 _ (List.mem_of_getElem? (i := 7) rfl)) (by decide +kernel)
set_option maxRecDepth 1000000 in
theorem gw_1258 : GoodIn lw_tbl [(.selects RX12 yX12_ice yX12_ice : Cond)] := gi_one (mb_9 _ (List.mem_of_getElem? (i := 8) rfl)) (by decide +kernel)
set_option maxRecDepth 1000000 in
theorem gw_1261 : GoodIn lw_tbl [(.code yX12_ice cX12_ice 10 (some .int) : Cond)] := gi_one (mb_9 _ (List.mem_of_getElem? (i := 9) rfl)) (by decide +kernel)
set_option maxRecDepth 1000000 in
theorem gw_1274 : GoodIn lw_tbl [(.methodLink RL 239 yX12_image : Cond)] := gi_one (mb_9 _ (List.mem_of_getElem? (i := 10) rfl)) (by decide +kernel)
set_option maxRecDepth 1000000 in
theorem gw_1273 : GoodIn lw_tbl [(.instanceMethod yX12_image : Cond)] := gi_one (mb_9 _ (List.mem_of_getElem? (i := 11) rfl)) (by decide +kernel)
set_option maxRecDepth 1000000 in
theorem gw_1272 : GoodIn lw_tbl [(.selects RX12 yX12_image yX12_image : Cond)] := gi_one (mb_9 _ (List.mem_of_getElem? (i := 12) rfl)) (by decide +kernel)
set_option maxRecDepth 1000000 in
theorem gw_1275 : GoodIn lw_tbl [(.code yX12_image cX12_image 2 (some .int) : Cond)] := gi_one (mb_9 _ (List.mem_of_getElem? (i := 13) rfl)) (by decide +kernel)
set_option maxRecDepth 1000000 in
theorem gw_1283 : GoodIn lw_tbl [(.methodLink RL 243 yX12_restore : Cond)] := gi_one (mb_9 _ (List.mem_of_getElem? (i := 14) rfl)) (by decide +kernel)
set_option maxRecDepth 1000000 in
theorem gw_1282 : GoodIn lw_tbl [(.instanceMethod yX12_restore : Cond)] := gi_one (mb_9 _ (List.mem_of_getElem? (i := 15) rfl)) (by decide +kernel)
set_option maxRecDepth 1000000 in
theorem gw_1281 : GoodIn lw_tbl [(.selects RX12 yX12_restore yX12_restore : Cond)] := gi_one (mb_9 _ (List.mem_of_getElem? (i := 16) rfl)) (by decide +kernel)
set_option maxRecDepth 1000000 in
theorem gw_1284 : GoodIn lw_tbl [(.code yX12_restore cX12_restore 2 (some .int) : Cond)] := gi_one (mb_9 _ (List.mem_of_getElem? (i := 17) rfl)) (by decide +kernel)
set_option maxRecDepth 1000000 in
theorem gw_1291 : GoodIn lw_tbl [(.methodLink RL 247 yX12_status : Cond)] := gi_one (mb_9 _ (List.mem_of_getElem? (i := 18) rfl)) (by decide +kernel)
set_option maxRecDepth 1000000 in
theorem gw_1290 : GoodIn lw_tbl [(.instanceMethod yX12_status : Cond)] := gi_one (mb_9 _ (List.mem_of_getElem? (i := 19) rfl)) (by decide +kernel)
set_option maxRecDepth 1000000 in
theorem gw_1289 : GoodIn lw_tbl [(.selects RX12 yX12_status yX12_status : Cond)] := gi_one (mb_9 _ (List.mem_of_getElem? (i := 20) rfl)) (by decide +kernel)
set_option maxRecDepth 1000000 in
theorem gw_1292 : GoodIn lw_tbl [(.code yX12_status cX12_status 2 (some .int) : Cond)] := gi_one (mb_9 _ (List.mem_of_getElem? (i := 21) rfl)) (by decide +kernel)
set_option maxRecDepth 1000000 in
theorem gw_1299 : GoodIn lw_tbl [(.methodLink RL 251 yX12_count : Cond)] := gi_one (mb_9 _ (List.mem_of_getElem? (i := 22) rfl)) (by decide +kernel)
set_option maxRecDepth 1000000 in
theorem gw_1298 : GoodIn lw_tbl [(.instanceMethod yX12_count : Cond)] := gi_one (mb_9 _ (List.mem_of_getElem? (i := 23) rfl)) (by decide +kernel)
set_option maxRecDepth 1000000 in
theorem gw_1297 : GoodIn lw_tbl [(.selects RX12 yX12_count yX12_count : Cond)] := gi_one (mb_9 _ (List.mem_of_getElem? (i := 24) rfl)) (by decide +kernel)
set_option maxRecDepth 1000000 in
theorem gw_1300 : GoodIn lw_tbl [(.code yX12_count cX12_count 2 (some .int) : Cond)] := gi_one (mb_9 _ (List.mem_of_getElem? (i := 25) rfl)) (by decide +kernel)
set_option maxRecDepth 1000000 in
theorem gw_166 : GoodIn lw_tbl [(.fieldLink RX10 109 "KerbSplash$Word" "letters" "Ljava/lang/String;" : Cond)] := gi_one (mb_9 _ (List.mem_of_getElem? (i := 47) rfl)) (by decide +kernel)
set_option maxRecDepth 1000000 in
theorem gw_156 : GoodIn lw_tbl [(.fieldLink RJ0 9 "java/lang/String" "value" "[B" : Cond)] := gi_one (mb_9 _ (List.mem_of_getElem? (i := 48) rfl)) (by decide +kernel)
set_option maxRecDepth 1000000 in
theorem gw_153 : GoodIn lw_tbl [(.fieldLink RJ0 15 "java/lang/String" "coder" "B" : Cond)] := gi_one (mb_9 _ (List.mem_of_getElem? (i := 49) rfl)) (by decide +kernel)
set_option maxRecDepth 1000000 in
theorem gw_186 : GoodIn lw_tbl [(.fieldLink RX10 113 "KerbSplash$Word" "work" "I" : Cond)] := gi_one (mb_9 _ (List.mem_of_getElem? (i := 50) rfl)) (by decide +kernel)
