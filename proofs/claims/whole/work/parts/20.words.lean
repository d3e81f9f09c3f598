/-! words of the tables by their places -/
theorem tb0 {w : Cond} (h : w ∈ k2_sels lw_privs) : w ∈ lw_tbl := List.mem_append_left _ h
theorem tb1 {w : Cond} (h : w ∈ tables_1_1) : w ∈ lw_tbl := List.mem_append_right _ (List.mem_append_left _ h)
theorem tb2 {w : Cond} (h : w ∈ tables_1_2) : w ∈ lw_tbl := List.mem_append_right _ (List.mem_append_right _ (List.mem_append_left _ h))
theorem tb3 {w : Cond} (h : w ∈ tables_1_3) : w ∈ lw_tbl := List.mem_append_right _ (List.mem_append_right _ (List.mem_append_right _ (List.mem_append_left _ h)))
theorem tb4 {w : Cond} (h : w ∈ tables_1_4) : w ∈ lw_tbl := List.mem_append_right _ (List.mem_append_right _ (List.mem_append_right _ (List.mem_append_right _ (List.mem_append_left _ h))))
theorem tb5 {w : Cond} (h : w ∈ tables_1_5) : w ∈ lw_tbl := List.mem_append_right _ (List.mem_append_right _ (List.mem_append_right _ (List.mem_append_right _ (List.mem_append_right _ (List.mem_append_left _ h)))))
theorem tb6 {w : Cond} (h : w ∈ tables_1_6) : w ∈ lw_tbl := List.mem_append_right _ (List.mem_append_right _ (List.mem_append_right _ (List.mem_append_right _ (List.mem_append_right _ (List.mem_append_right _ (List.mem_append_left _ h))))))
theorem tb7 {w : Cond} (h : w ∈ tables_1_7) : w ∈ lw_tbl := List.mem_append_right _ (List.mem_append_right _ (List.mem_append_right _ (List.mem_append_right _ (List.mem_append_right _ (List.mem_append_right _ (List.mem_append_right _ (h)))))))
theorem lk122 : Fld RX1 36 TX1 0 := lw_gm (tb1 (List.mem_of_getElem? (i := 30) rfl)) rfl
theorem lk123 : Fld RX4 33 TX1 0 := lw_gm (tb1 (List.mem_of_getElem? (i := 31) rfl)) rfl
theorem lk124 : Fld RX7 83 TX1 0 := lw_gm (tb1 (List.mem_of_getElem? (i := 32) rfl)) rfl
theorem lk125 : Fld RX0 64 TX1 0 := lw_gm (tb1 (List.mem_of_getElem? (i := 33) rfl)) rfl
theorem lk126 : Fld RX6 54 TX1 0 := lw_gm (tb1 (List.mem_of_getElem? (i := 34) rfl)) rfl
theorem lk127 : Fld RX5 87 TX1 0 := lw_gm (tb1 (List.mem_of_getElem? (i := 35) rfl)) rfl
theorem lk128 : Fld RX1 39 TX1 1 := lw_gm (tb1 (List.mem_of_getElem? (i := 36) rfl)) rfl
theorem lk129 : Fld RX5 49 TX1 1 := lw_gm (tb1 (List.mem_of_getElem? (i := 37) rfl)) rfl
theorem lk130 : Fld RX4 41 TX1 1 := lw_gm (tb1 (List.mem_of_getElem? (i := 38) rfl)) rfl
theorem lk131 : Fld RX7 105 TX1 1 := lw_gm (tb1 (List.mem_of_getElem? (i := 39) rfl)) rfl
theorem lk132 : Fld RX0 135 TX1 1 := lw_gm (tb1 (List.mem_of_getElem? (i := 40) rfl)) rfl
theorem lk133 : Fld RX1 42 TX1 2 := lw_gm (tb1 (List.mem_of_getElem? (i := 41) rfl)) rfl
theorem lk134 : Fld RX7 114 TX1 2 := lw_gm (tb1 (List.mem_of_getElem? (i := 42) rfl)) rfl
theorem lk135 : Fld RX6 74 TX1 2 := lw_gm (tb1 (List.mem_of_getElem? (i := 43) rfl)) rfl
theorem lk136 : Fld RX0 142 TX1 2 := lw_gm (tb1 (List.mem_of_getElem? (i := 44) rfl)) rfl
theorem lk137 : Fld RX1 45 TX1 3 := lw_gm (tb1 (List.mem_of_getElem? (i := 45) rfl)) rfl
theorem lk138 : Fld RX6 60 TX1 3 := lw_gm (tb1 (List.mem_of_getElem? (i := 46) rfl)) rfl
theorem lk139 : Fld RX7 171 TX1 3 := lw_gm (tb1 (List.mem_of_getElem? (i := 47) rfl)) rfl
theorem lk140 : Fld RX1 48 TX1 4 := lw_gm (tb1 (List.mem_of_getElem? (i := 48) rfl)) rfl
theorem lk141 : Fld RX6 45 TX1 4 := lw_gm (tb1 (List.mem_of_getElem? (i := 49) rfl)) rfl
theorem lk142 : Fld RX7 184 TX1 4 := lw_gm (tb1 (List.mem_of_getElem? (i := 50) rfl)) rfl
theorem lk143 : Fld RX1 9 TX1 5 := lw_gm (tb1 (List.mem_of_getElem? (i := 51) rfl)) rfl
theorem lk144 : Fld RX7 329 TX1 5 := lw_gm (tb1 (List.mem_of_getElem? (i := 52) rfl)) rfl
theorem lk145 : Fld RX1 51 TX1 6 := lw_gm (tb1 (List.mem_of_getElem? (i := 53) rfl)) rfl
theorem lk146 : Fld RX7 163 TX1 6 := lw_gm (tb1 (List.mem_of_getElem? (i := 54) rfl)) rfl
theorem lk147 : Fld RX1 15 TX1 7 := lw_gm (tb1 (List.mem_of_getElem? (i := 55) rfl)) rfl
theorem lk148 : Fld RX0 129 TX1 7 := lw_gm (tb1 (List.mem_of_getElem? (i := 56) rfl)) rfl
theorem lk149 : Fld RX1 54 TX1 8 := lw_gm (tb1 (List.mem_of_getElem? (i := 57) rfl)) rfl
theorem lk150 : Fld RX0 132 TX1 8 := lw_gm (tb1 (List.mem_of_getElem? (i := 58) rfl)) rfl
theorem lk151 : Fld RX1 20 TX1 9 := lw_gm (tb1 (List.mem_of_getElem? (i := 59) rfl)) rfl
theorem lk152 : Fld RX5 90 TX1 9 := lw_gm (tb1 (List.mem_of_getElem? (i := 60) rfl)) rfl
theorem lk153 : Fld RX7 147 TX1 9 := lw_gm (tb1 (List.mem_of_getElem? (i := 61) rfl)) rfl
theorem lk154 : Fld RX1 23 TX1 10 := lw_gm (tb1 (List.mem_of_getElem? (i := 62) rfl)) rfl
theorem lk155 : Fld RX4 44 TX1 10 := lw_gm (tb1 (List.mem_of_getElem? (i := 63) rfl)) rfl
theorem lk156 : Fld RX7 153 TX1 10 := lw_gm (tb1 (List.mem_of_getElem? (i := 64) rfl)) rfl
theorem lk157 : Fld RX0 138 TX1 10 := lw_gm (tb1 (List.mem_of_getElem? (i := 65) rfl)) rfl
theorem lk158 : Fld RX1 26 TX1 11 := lw_gm (tb1 (List.mem_of_getElem? (i := 66) rfl)) rfl
theorem lk159 : Fld RX7 127 TX1 11 := lw_gm (tb1 (List.mem_of_getElem? (i := 67) rfl)) rfl
theorem lk160 : Fld RX6 77 TX1 11 := lw_gm (tb1 (List.mem_of_getElem? (i := 68) rfl)) rfl
theorem lk161 : Fld RX0 145 TX1 11 := lw_gm (tb1 (List.mem_of_getElem? (i := 69) rfl)) rfl
theorem lk162 : Fld RX1 29 TX1 12 := lw_gm (tb1 (List.mem_of_getElem? (i := 70) rfl)) rfl
theorem lk163 : Fld RX6 41 TX1 12 := lw_gm (tb1 (List.mem_of_getElem? (i := 71) rfl)) rfl
theorem lk164 : Fld RX7 326 TX1 12 := lw_gm (tb1 (List.mem_of_getElem? (i := 72) rfl)) rfl
theorem lk165 : Fld RX1 32 TX1 13 := lw_gm (tb1 (List.mem_of_getElem? (i := 73) rfl)) rfl
theorem lk166 : Fld RX6 80 TX1 13 := lw_gm (tb1 (List.mem_of_getElem? (i := 74) rfl)) rfl
theorem lk167 : Fld RX7 314 TX1 13 := lw_gm (tb1 (List.mem_of_getElem? (i := 75) rfl)) rfl
theorem lk206 : Fld RX0 11 TX0 0 := lw_gm (tb1 (List.mem_of_getElem? (i := 114) rfl)) rfl
theorem lk207 : Fld RX0 15 TX0 1 := lw_gm (tb1 (List.mem_of_getElem? (i := 115) rfl)) rfl
theorem lk208 : Fld RX0 20 TX0 2 := lw_gm (tb1 (List.mem_of_getElem? (i := 116) rfl)) rfl
theorem lk209 : Fld RX0 23 TX0 3 := lw_gm (tb1 (List.mem_of_getElem? (i := 117) rfl)) rfl
theorem lk210 : Fld RX0 61 TX0 4 := lw_gm (tb1 (List.mem_of_getElem? (i := 118) rfl)) rfl
theorem lk211 : Fld RX0 27 TX0 5 := lw_gm (tb1 (List.mem_of_getElem? (i := 119) rfl)) rfl
theorem lk212 : Fld RX0 30 TX0 6 := lw_gm (tb1 (List.mem_of_getElem? (i := 120) rfl)) rfl
theorem lk213 : Fld RX0 33 TX0 7 := lw_gm (tb1 (List.mem_of_getElem? (i := 121) rfl)) rfl
theorem lk214 : Fld RX0 43 TX0 8 := lw_gm (tb1 (List.mem_of_getElem? (i := 122) rfl)) rfl
theorem lk215 : Fld RX0 84 TX0 9 := lw_gm (tb1 (List.mem_of_getElem? (i := 123) rfl)) rfl
theorem lk216 : Fld RX0 36 TX0 10 := lw_gm (tb1 (List.mem_of_getElem? (i := 124) rfl)) rfl
theorem lk217 : Fld RX7 220 TX0 10 := lw_gm (tb1 (List.mem_of_getElem? (i := 125) rfl)) rfl
theorem lk218 : Fld RX0 39 TX0 11 := lw_gm (tb1 (List.mem_of_getElem? (i := 126) rfl)) rfl
theorem lk219 : Fld RX7 224 TX0 11 := lw_gm (tb1 (List.mem_of_getElem? (i := 127) rfl)) rfl
theorem lk252 : Fld RX6 9 TX6 0 := lw_gm (tb1 (List.mem_of_getElem? (i := 160) rfl)) rfl
theorem lk253 : Fld RX6 31 TX6 1 := lw_gm (tb1 (List.mem_of_getElem? (i := 161) rfl)) rfl
theorem lk254 : Fld RX7 301 TX6 1 := lw_gm (tb1 (List.mem_of_getElem? (i := 162) rfl)) rfl
theorem lk267 : Fld RX5 9 TX5 0 := lw_gm (tb1 (List.mem_of_getElem? (i := 175) rfl)) rfl
theorem lk268 : Fld RX5 15 TX5 1 := lw_gm (tb1 (List.mem_of_getElem? (i := 176) rfl)) rfl
theorem lk269 : Fld RX5 19 TX5 2 := lw_gm (tb1 (List.mem_of_getElem? (i := 177) rfl)) rfl
theorem lk270 : Fld RX5 24 TX5 3 := lw_gm (tb1 (List.mem_of_getElem? (i := 178) rfl)) rfl
theorem lk271 : Fld RX5 27 TX5 4 := lw_gm (tb1 (List.mem_of_getElem? (i := 179) rfl)) rfl
theorem lk272 : Fld RX7 273 TX5 4 := lw_gm (tb1 (List.mem_of_getElem? (i := 180) rfl)) rfl
theorem lk273 : Fld RX5 31 TX5 5 := lw_gm (tb1 (List.mem_of_getElem? (i := 181) rfl)) rfl
theorem lk274 : Fld RX7 276 TX5 5 := lw_gm (tb1 (List.mem_of_getElem? (i := 182) rfl)) rfl
theorem lk275 : Fld RX5 34 TX5 6 := lw_gm (tb1 (List.mem_of_getElem? (i := 183) rfl)) rfl
theorem lk276 : Fld RX7 279 TX5 6 := lw_gm (tb1 (List.mem_of_getElem? (i := 184) rfl)) rfl
theorem lk277 : Fld RX5 37 TX5 7 := lw_gm (tb1 (List.mem_of_getElem? (i := 185) rfl)) rfl
theorem lk278 : Fld RX7 282 TX5 7 := lw_gm (tb1 (List.mem_of_getElem? (i := 186) rfl)) rfl
theorem lk279 : Fld RX5 40 TX5 8 := lw_gm (tb1 (List.mem_of_getElem? (i := 187) rfl)) rfl
theorem lk280 : Fld RX7 285 TX5 8 := lw_gm (tb1 (List.mem_of_getElem? (i := 188) rfl)) rfl
theorem lk306 : Fld RX4 9 TX4 0 := lw_gm (tb1 (List.mem_of_getElem? (i := 214) rfl)) rfl
theorem lk307 : Fld RX4 15 TX4 1 := lw_gm (tb1 (List.mem_of_getElem? (i := 215) rfl)) rfl
theorem lk308 : Fld RX4 18 TX4 2 := lw_gm (tb1 (List.mem_of_getElem? (i := 216) rfl)) rfl
theorem lk309 : Fld RX4 58 TX4 3 := lw_gm (tb1 (List.mem_of_getElem? (i := 217) rfl)) rfl
theorem lk310 : Fld RX7 249 TX4 3 := lw_gm (tb1 (List.mem_of_getElem? (i := 218) rfl)) rfl
theorem lk311 : Fld RX4 62 TX4 4 := lw_gm (tb1 (List.mem_of_getElem? (i := 219) rfl)) rfl
theorem lk312 : Fld RX7 252 TX4 4 := lw_gm (tb1 (List.mem_of_getElem? (i := 220) rfl)) rfl
theorem lk313 : Fld RX4 73 TX4 5 := lw_gm (tb1 (List.mem_of_getElem? (i := 221) rfl)) rfl
theorem lk314 : Fld RX7 258 TX4 5 := lw_gm (tb1 (List.mem_of_getElem? (i := 222) rfl)) rfl
theorem lk337 : Fld RX3 11 TX3 0 := lw_gm (tb2 (List.mem_of_getElem? (i := 5) rfl)) rfl
theorem lk338 : Fld RX3 18 TX3 1 := lw_gm (tb2 (List.mem_of_getElem? (i := 6) rfl)) rfl
theorem lk339 : Fld RX3 22 TX3 2 := lw_gm (tb2 (List.mem_of_getElem? (i := 7) rfl)) rfl
theorem lk340 : Fld RX3 26 TX3 3 := lw_gm (tb2 (List.mem_of_getElem? (i := 8) rfl)) rfl
theorem lk341 : Fld RX7 335 TX3 3 := lw_gm (tb2 (List.mem_of_getElem? (i := 9) rfl)) rfl
theorem lk351 : Fld RX7 10 TX7 0 := lw_gm (tb2 (List.mem_of_getElem? (i := 19) rfl)) rfl
theorem lk352 : Fld RX7 16 TX7 1 := lw_gm (tb2 (List.mem_of_getElem? (i := 20) rfl)) rfl
theorem lk353 : Fld RX7 22 TX7 2 := lw_gm (tb2 (List.mem_of_getElem? (i := 21) rfl)) rfl
theorem lk354 : Fld RX7 31 TX7 3 := lw_gm (tb2 (List.mem_of_getElem? (i := 22) rfl)) rfl
theorem lk355 : Fld RX7 38 TX7 4 := lw_gm (tb2 (List.mem_of_getElem? (i := 23) rfl)) rfl
theorem lk356 : Fld RX7 45 TX7 5 := lw_gm (tb2 (List.mem_of_getElem? (i := 24) rfl)) rfl
theorem lk357 : Fld RX7 52 TX7 6 := lw_gm (tb2 (List.mem_of_getElem? (i := 25) rfl)) rfl
theorem lk358 : Fld RX7 56 TX7 7 := lw_gm (tb2 (List.mem_of_getElem? (i := 26) rfl)) rfl
theorem lk359 : Fld RX7 60 TX7 8 := lw_gm (tb2 (List.mem_of_getElem? (i := 27) rfl)) rfl
theorem lk360 : Fld RX7 64 TX7 9 := lw_gm (tb2 (List.mem_of_getElem? (i := 28) rfl)) rfl
theorem lk361 : Fld RX7 68 TX7 10 := lw_gm (tb2 (List.mem_of_getElem? (i := 29) rfl)) rfl
theorem lk390 : Cond.fieldLink RX7 72 "VacuumDesk" "TOP_OF_CHAMBER" "[I" ∈ lw_g := lw_gm (tb2 (List.mem_of_getElem? (i := 58) rfl)) rfl
theorem lk392 : Cond.methodLink RX7 75 yX7_within ∈ lw_g := lw_gm (tb2 (List.mem_of_getElem? (i := 60) rfl)) rfl
theorem lk395 : Cond.methodLink RX7 79 yX7_refuse ∈ lw_g := lw_gm (tb2 (List.mem_of_getElem? (i := 63) rfl)) rfl
theorem lk399 : Cond.methodLink RX7 86 yX7_accept ∈ lw_g := lw_gm (tb2 (List.mem_of_getElem? (i := 67) rfl)) rfl
theorem lk403 : Cond.methodLink RX7 350 yX3_keep ∈ lw_g := lw_gm (tb2 (List.mem_of_getElem? (i := 71) rfl)) rfl
theorem lk407 : Cond.methodLink RX3 29 yX1_copyFrom ∈ lw_g := lw_gm (tb2 (List.mem_of_getElem? (i := 75) rfl)) rfl
theorem lk411 : Cond.methodLink RX1 57 yX1_copyRows ∈ lw_g := lw_gm (tb2 (List.mem_of_getElem? (i := 79) rfl)) rfl
theorem lk414 : Cond.methodLink RX1 61 arraycopyName ∈ lw_g := lw_gm (tb2 (List.mem_of_getElem? (i := 82) rfl)) rfl
theorem lk417 : Cond.methodLink RX7 90 yX1_addChamber ∈ lw_g := lw_gm (tb2 (List.mem_of_getElem? (i := 85) rfl)) rfl
theorem lk425 : Cond.methodLink RX7 94 yX7_arePieces ∈ lw_g := lw_gm (tb2 (List.mem_of_getElem? (i := 93) rfl)) rfl
theorem lk428 : Cond.methodLink RX7 97 yX7_isChamber ∈ lw_g := lw_gm (tb2 (List.mem_of_getElem? (i := 96) rfl)) rfl
theorem lk432 : Cond.methodLink RX7 101 yX7_inSeries ∈ lw_g := lw_gm (tb2 (List.mem_of_getElem? (i := 100) rfl)) rfl
theorem lk435 : Cond.methodLink RX7 344 yX2_over ∈ lw_g := lw_gm (tb2 (List.mem_of_getElem? (i := 103) rfl)) rfl
theorem lk438 : Cond.methodLink RX7 348 Lib.MathLoose.max_long.x ∈ lw_g := lw_gm (tb2 (List.mem_of_getElem? (i := 106) rfl)) rfl
theorem lk441 : Cond.methodLink RX7 108 yX1_weight ∈ lw_g := lw_gm (tb2 (List.mem_of_getElem? (i := 109) rfl)) rfl
theorem lk445 : Cond.methodLink RX1 77 yX1_topSpeed ∈ lw_g := lw_gm (tb2 (List.mem_of_getElem? (i := 113) rfl)) rfl
theorem lk449 : Cond.methodLink RX1 71 Lib.Math.max.name ∈ lw_g := lw_gm (tb2 (List.mem_of_getElem? (i := 117) rfl)) rfl
theorem lk452 : Cond.methodLink RX7 111 yX1_addTube ∈ lw_g := lw_gm (tb2 (List.mem_of_getElem? (i := 120) rfl)) rfl
theorem lk460 : Cond.methodLink RX7 117 yX1_addPump ∈ lw_g := lw_gm (tb2 (List.mem_of_getElem? (i := 128) rfl)) rfl
theorem lk468 : Cond.methodLink RX7 120 yX7_isCurveNumber ∈ lw_g := lw_gm (tb2 (List.mem_of_getElem? (i := 136) rfl)) rfl
theorem lk471 : Cond.methodLink RX7 124 yX7_isPump ∈ lw_g := lw_gm (tb2 (List.mem_of_getElem? (i := 139) rfl)) rfl
theorem lk475 : Cond.methodLink RX7 131 yX7_curveThen ∈ lw_g := lw_gm (tb2 (List.mem_of_getElem? (i := 143) rfl)) rfl
theorem lk478 : Cond.methodLink RX7 135 Lib.Math.max.name ∈ lw_g := lw_gm (tb2 (List.mem_of_getElem? (i := 146) rfl)) rfl
theorem lk479 : Cond.methodLink RX7 140 yX1_topSpeed ∈ lw_g := lw_gm (tb2 (List.mem_of_getElem? (i := 147) rfl)) rfl
theorem lk480 : Cond.methodLink RX7 143 yX7_swap ∈ lw_g := lw_gm (tb2 (List.mem_of_getElem? (i := 148) rfl)) rfl
theorem lk491 : Cond.methodLink RX7 150 yX7_isTube ∈ lw_g := lw_gm (tb2 (List.mem_of_getElem? (i := 159) rfl)) rfl
theorem lk495 : Cond.methodLink RX7 156 yX1_flip ∈ lw_g := lw_gm (tb2 (List.mem_of_getElem? (i := 163) rfl)) rfl
theorem lk507 : Cond.methodLink RX7 160 yX1_isJoint ∈ lw_g := lw_gm (tb2 (List.mem_of_getElem? (i := 175) rfl)) rfl
theorem lk511 : Cond.methodLink RX7 166 yX1_putLeak ∈ lw_g := lw_gm (tb2 (List.mem_of_getElem? (i := 179) rfl)) rfl
theorem lk519 : Cond.constant RX7 170 99999999 ∈ lw_g := lw_gm (tb2 (List.mem_of_getElem? (i := 187) rfl)) rfl
theorem lk520 : Cond.methodLink RX7 174 yX1_addWatch ∈ lw_g := lw_gm (tb2 (List.mem_of_getElem? (i := 188) rfl)) rfl
theorem lk528 : Cond.methodLink RX7 178 yX7_isWatch ∈ lw_g := lw_gm (tb2 (List.mem_of_getElem? (i := 196) rfl)) rfl
theorem lk532 : Cond.methodLink RX7 181 yX1_removeWatch ∈ lw_g := lw_gm (tb2 (List.mem_of_getElem? (i := 200) rfl)) rfl
theorem lk540 : Cond.methodLink RX7 187 yX6_step ∈ lw_g := lw_gm (tb2 (List.mem_of_getElem? (i := 208) rfl)) rfl
theorem lk544 : Cond.methodLink RX6 15 yX6_askWatches ∈ lw_g := lw_gm (tb2 (List.mem_of_getElem? (i := 212) rfl)) rfl
theorem lk548 : Cond.methodLink RX6 63 yX0_solve ∈ lw_g := lw_gm (tb2 (List.mem_of_getElem? (i := 216) rfl)) rfl
theorem lk552 : Cond.methodLink RX0 47 yX0_write ∈ lw_g := lw_gm (tb2 (List.mem_of_getElem? (i := 220) rfl)) rfl
theorem lk556 : Cond.methodLink RX0 123 yJ7_fill_53178 ∈ lw_g := lw_gm (tb2 (List.mem_of_getElem? (i := 224) rfl)) rfl
theorem lk559 : Cond.methodLink RX0 55 arraycopyName ∈ lw_g := lw_gm (tb2 (List.mem_of_getElem? (i := 227) rfl)) rfl
theorem lk560 : Cond.methodLink RX0 148 yX1_load ∈ lw_g := lw_gm (tb2 (List.mem_of_getElem? (i := 228) rfl)) rfl
theorem lk564 : Cond.methodLink RX1 67 yX1_fromWalls ∈ lw_g := lw_gm (tb2 (List.mem_of_getElem? (i := 232) rfl)) rfl
theorem lk568 : Cond.methodLink RX0 151 yX1_twiceLeak ∈ lw_g := lw_gm (tb2 (List.mem_of_getElem? (i := 236) rfl)) rfl
theorem lk572 : Cond.methodLink RX0 51 yX0_differs ∈ lw_g := lw_gm (tb3 (List.mem_of_getElem? (i := 0) rfl)) rfl
theorem lk576 : Cond.methodLink RX0 69 yX1_net ∈ lw_g := lw_gm (tb3 (List.mem_of_getElem? (i := 4) rfl)) rfl
theorem lk580 : Cond.methodLink RX0 73 yX0_prepare ∈ lw_g := lw_gm (tb3 (List.mem_of_getElem? (i := 8) rfl)) rfl
theorem lk584 : Cond.methodLink RX0 166 yX0_isInverted ∈ lw_g := lw_gm (tb3 (List.mem_of_getElem? (i := 12) rfl)) rfl
theorem lk588 : Cond.methodLink RX0 178 yX0_canBe ∈ lw_g := lw_gm (tb3 (List.mem_of_getElem? (i := 16) rfl)) rfl
theorem lk592 : Cond.methodLink RX0 169 yX0_runs ∈ lw_g := lw_gm (tb3 (List.mem_of_getElem? (i := 20) rfl)) rfl
theorem lk596 : Cond.methodLink RX0 87 yX0_stageIn ∈ lw_g := lw_gm (tb3 (List.mem_of_getElem? (i := 24) rfl)) rfl
theorem lk599 : Cond.methodLink RX0 175 yX0_placeOf ∈ lw_g := lw_gm (tb3 (List.mem_of_getElem? (i := 27) rfl)) rfl
theorem lk603 : Cond.methodLink RX0 181 yX0_netsWithoutSpeed ∈ lw_g := lw_gm (tb3 (List.mem_of_getElem? (i := 31) rfl)) rfl
theorem lk607 : Cond.methodLink RX0 185 yX0_fillMatrix ∈ lw_g := lw_gm (tb3 (List.mem_of_getElem? (i := 35) rfl)) rfl
theorem lk611 : Cond.methodLink RX0 156 yX0_isStill ∈ lw_g := lw_gm (tb3 (List.mem_of_getElem? (i := 39) rfl)) rfl
theorem lk615 : Cond.methodLink RX0 188 yX2_invert ∈ lw_g := lw_gm (tb3 (List.mem_of_getElem? (i := 43) rfl)) rfl
theorem lk618 : Cond.methodLink RX2 24 yX2_clearColumn ∈ lw_g := lw_gm (tb3 (List.mem_of_getElem? (i := 46) rfl)) rfl
theorem lk621 : Cond.methodLink RX0 77 yX0_agrees ∈ lw_g := lw_gm (tb3 (List.mem_of_getElem? (i := 49) rfl)) rfl
theorem lk625 : Cond.methodLink RX0 172 yX0_stageBy ∈ lw_g := lw_gm (tb3 (List.mem_of_getElem? (i := 53) rfl)) rfl
theorem lk629 : Cond.methodLink RX0 163 yX0_comesIn ∈ lw_g := lw_gm (tb3 (List.mem_of_getElem? (i := 57) rfl)) rfl
theorem lk633 : Cond.methodLink RX0 159 yX0_upperAt ∈ lw_g := lw_gm (tb3 (List.mem_of_getElem? (i := 61) rfl)) rfl
theorem lk637 : Cond.constantLong RX0 154 2 ∈ lw_g := lw_gm (tb3 (List.mem_of_getElem? (i := 65) rfl)) rfl
theorem lk638 : Cond.methodLink RX0 81 yX0_tellPressures ∈ lw_g := lw_gm (tb3 (List.mem_of_getElem? (i := 66) rfl)) rfl
theorem lk642 : Cond.methodLink RX6 66 yX6_isSo ∈ lw_g := lw_gm (tb3 (List.mem_of_getElem? (i := 70) rfl)) rfl
theorem lk646 : Cond.methodLink RX6 48 yX0_hunts ∈ lw_g := lw_gm (tb3 (List.mem_of_getElem? (i := 74) rfl)) rfl
theorem lk650 : Cond.methodLink RX6 57 yX0_gauge ∈ lw_g := lw_gm (tb3 (List.mem_of_getElem? (i := 78) rfl)) rfl
theorem lk654 : Cond.methodLink RX0 91 yX0_isEndless ∈ lw_g := lw_gm (tb3 (List.mem_of_getElem? (i := 82) rfl)) rfl
theorem lk658 : Cond.constant RX0 94 99999999 ∈ lw_g := lw_gm (tb3 (List.mem_of_getElem? (i := 86) rfl)) rfl
theorem lk659 : Cond.constantLong RX0 95 99999999 ∈ lw_g := lw_gm (tb3 (List.mem_of_getElem? (i := 87) rfl)) rfl
theorem lk660 : Cond.constantLong RX0 97 1000 ∈ lw_g := lw_gm (tb3 (List.mem_of_getElem? (i := 88) rfl)) rfl
theorem lk661 : Cond.methodLink RX0 99 yX2_over ∈ lw_g := lw_gm (tb3 (List.mem_of_getElem? (i := 89) rfl)) rfl
theorem lk662 : Cond.methodLink RX0 105 Lib.MathLoose.min_long.x ∈ lw_g := lw_gm (tb3 (List.mem_of_getElem? (i := 90) rfl)) rfl
theorem lk665 : Cond.methodLink RX6 70 yX1_act ∈ lw_g := lw_gm (tb3 (List.mem_of_getElem? (i := 93) rfl)) rfl
theorem lk669 : Cond.methodLink RX1 91 yX1_put ∈ lw_g := lw_gm (tb3 (List.mem_of_getElem? (i := 97) rfl)) rfl
theorem lk672 : Cond.methodLink RX6 19 yX6_tripPumps ∈ lw_g := lw_gm (tb3 (List.mem_of_getElem? (i := 100) rfl)) rfl
theorem lk676 : Cond.methodLink RX6 23 yX6_writeLog ∈ lw_g := lw_gm (tb3 (List.mem_of_getElem? (i := 104) rfl)) rfl
theorem lk680 : Cond.methodLink RX6 84 yX1_logPlace ∈ lw_g := lw_gm (tb3 (List.mem_of_getElem? (i := 108) rfl)) rfl
theorem lk683 : Cond.methodLink RX6 26 yX1_bake ∈ lw_g := lw_gm (tb3 (List.mem_of_getElem? (i := 111) rfl)) rfl
theorem lk687 : Cond.methodLink RX6 35 yJ6_bitCount_0f7a4 ∈ lw_g := lw_gm (tb3 (List.mem_of_getElem? (i := 115) rfl)) rfl
theorem lk690 : Cond.constant RJ6 265 1431655765 ∈ lw_g := lw_gm (tb3 (List.mem_of_getElem? (i := 118) rfl)) rfl
theorem lk691 : Cond.constant RJ6 266 858993459 ∈ lw_g := lw_gm (tb3 (List.mem_of_getElem? (i := 119) rfl)) rfl
theorem lk692 : Cond.constant RJ6 267 252645135 ∈ lw_g := lw_gm (tb3 (List.mem_of_getElem? (i := 120) rfl)) rfl
theorem lk701 : Cond.methodLink RX7 191 yX0_solve ∈ lw_g := lw_gm (tb3 (List.mem_of_getElem? (i := 129) rfl)) rfl
theorem lk702 : Cond.methodLink RX7 195 yX0_hunts ∈ lw_g := lw_gm (tb3 (List.mem_of_getElem? (i := 130) rfl)) rfl
theorem lk703 : Cond.methodLink RX7 199 yX0_gauge ∈ lw_g := lw_gm (tb3 (List.mem_of_getElem? (i := 131) rfl)) rfl
theorem lk708 : Cond.methodLink RX7 202 yX3_takeBack ∈ lw_g := lw_gm (tb3 (List.mem_of_getElem? (i := 136) rfl)) rfl
theorem lk716 : Cond.methodLink RX7 205 yX1_copyFrom ∈ lw_g := lw_gm (tb3 (List.mem_of_getElem? (i := 144) rfl)) rfl
theorem lk721 : Cond.methodLink RX7 208 yX3_forget ∈ lw_g := lw_gm (tb3 (List.mem_of_getElem? (i := 149) rfl)) rfl
theorem lk729 : Cond.constantLong RX7 211 (-1) ∈ lw_g := lw_gm (tb3 (List.mem_of_getElem? (i := 157) rfl)) rfl
theorem lk730 : Cond.constantLong RX7 213 (-3) ∈ lw_g := lw_gm (tb3 (List.mem_of_getElem? (i := 158) rfl)) rfl
theorem lk731 : Cond.methodLink RX7 215 yX0_isEndless ∈ lw_g := lw_gm (tb3 (List.mem_of_getElem? (i := 159) rfl)) rfl
theorem lk732 : Cond.constantLong RX7 218 (-2) ∈ lw_g := lw_gm (tb3 (List.mem_of_getElem? (i := 160) rfl)) rfl
theorem lk733 : Cond.methodLink RX7 228 yX2_term ∈ lw_g := lw_gm (tb3 (List.mem_of_getElem? (i := 161) rfl)) rfl
theorem lk736 : Cond.methodLink RX2 15 yX2_divisor ∈ lw_g := lw_gm (tb3 (List.mem_of_getElem? (i := 164) rfl)) rfl
theorem lk739 : Cond.methodLink RX2 9 Lib.MathLoose.abs_long.x ∈ lw_g := lw_gm (tb3 (List.mem_of_getElem? (i := 167) rfl)) rfl
theorem lk742 : Cond.methodLink RX2 21 yX2_over ∈ lw_g := lw_gm (tb3 (List.mem_of_getElem? (i := 170) rfl)) rfl
theorem lk751 : Cond.constantLong RX7 234 (-2147483648) ∈ lw_g := lw_gm (tb3 (List.mem_of_getElem? (i := 179) rfl)) rfl
theorem lk756 : Cond.methodLink RX7 236 yX0_stageNow ∈ lw_g := lw_gm (tb3 (List.mem_of_getElem? (i := 184) rfl)) rfl
theorem lk768 : Cond.methodLink RX7 239 yX7_areTwoChambers ∈ lw_g := lw_gm (tb3 (List.mem_of_getElem? (i := 196) rfl)) rfl
theorem lk772 : Cond.methodLink RX7 242 yX1_hang ∈ lw_g := lw_gm (tb3 (List.mem_of_getElem? (i := 200) rfl)) rfl
theorem lk776 : Cond.methodLink RX1 80 yX1_net ∈ lw_g := lw_gm (tb3 (List.mem_of_getElem? (i := 204) rfl)) rfl
theorem lk777 : Cond.methodLink RX7 245 yX4_across ∈ lw_g := lw_gm (tb3 (List.mem_of_getElem? (i := 205) rfl)) rfl
theorem lk781 : Cond.methodLink RX4 21 yX1_net ∈ lw_g := lw_gm (tb3 (List.mem_of_getElem? (i := 209) rfl)) rfl
theorem lk782 : Cond.methodLink RX4 27 yJ7_fill_d0a16 ∈ lw_g := lw_gm (tb3 (List.mem_of_getElem? (i := 210) rfl)) rfl
theorem lk785 : Cond.methodLink RX4 37 yX4_cell ∈ lw_g := lw_gm (tb3 (List.mem_of_getElem? (i := 213) rfl)) rfl
theorem lk788 : Cond.methodLink RX4 48 yX4_enter ∈ lw_g := lw_gm (tb3 (List.mem_of_getElem? (i := 216) rfl)) rfl
theorem lk792 : Cond.methodLink RX4 52 yX2_invert ∈ lw_g := lw_gm (tb3 (List.mem_of_getElem? (i := 220) rfl)) rfl
theorem lk797 : Cond.methodLink RX7 255 yX4_reduce ∈ lw_g := lw_gm (tb3 (List.mem_of_getElem? (i := 225) rfl)) rfl
theorem lk801 : Cond.methodLink RX4 65 yX4_join ∈ lw_g := lw_gm (tb3 (List.mem_of_getElem? (i := 229) rfl)) rfl
theorem lk805 : Cond.methodLink RX4 80 yX2_term ∈ lw_g := lw_gm (tb3 (List.mem_of_getElem? (i := 233) rfl)) rfl
theorem lk806 : Cond.methodLink RX4 84 yX4_write ∈ lw_g := lw_gm (tb3 (List.mem_of_getElem? (i := 234) rfl)) rfl
theorem lk810 : Cond.methodLink RX4 69 yX4_takeOut ∈ lw_g := lw_gm (tb3 (List.mem_of_getElem? (i := 238) rfl)) rfl
theorem lk814 : Cond.methodLink RX4 76 yX4_clear ∈ lw_g := lw_gm (tb4 (List.mem_of_getElem? (i := 2) rfl)) rfl
theorem lk822 : Cond.methodLink RX7 261 yX4_fewest ∈ lw_g := lw_gm (tb4 (List.mem_of_getElem? (i := 10) rfl)) rfl
theorem lk826 : Cond.methodLink RX4 87 yX4_goingOut ∈ lw_g := lw_gm (tb4 (List.mem_of_getElem? (i := 14) rfl)) rfl
theorem lk829 : Cond.methodLink RX4 91 yX4_isLess ∈ lw_g := lw_gm (tb4 (List.mem_of_getElem? (i := 17) rfl)) rfl
theorem lk832 : Cond.methodLink RX4 95 yJ6_bitCount_0f7a4 ∈ lw_g := lw_gm (tb4 (List.mem_of_getElem? (i := 20) rfl)) rfl
theorem lk833 : Cond.methodLink RX7 265 yJ6_bitCount_0f7a4 ∈ lw_g := lw_gm (tb4 (List.mem_of_getElem? (i := 21) rfl)) rfl
theorem lk838 : Cond.methodLink RX7 270 yX5_seek ∈ lw_g := lw_gm (tb4 (List.mem_of_getElem? (i := 26) rfl)) rfl
theorem lk842 : Cond.methodLink RX5 43 yX1_notes ∈ lw_g := lw_gm (tb4 (List.mem_of_getElem? (i := 30) rfl)) rfl
theorem lk846 : Cond.methodLink RX5 52 yX1_isJoint ∈ lw_g := lw_gm (tb4 (List.mem_of_getElem? (i := 34) rfl)) rfl
theorem lk847 : Cond.methodLink RX5 56 yX5_seekAt ∈ lw_g := lw_gm (tb4 (List.mem_of_getElem? (i := 35) rfl)) rfl
theorem lk851 : Cond.methodLink RX5 60 yX1_putLeak ∈ lw_g := lw_gm (tb4 (List.mem_of_getElem? (i := 39) rfl)) rfl
theorem lk852 : Cond.methodLink RX5 64 yX0_solve ∈ lw_g := lw_gm (tb4 (List.mem_of_getElem? (i := 40) rfl)) rfl
theorem lk853 : Cond.methodLink RX5 70 yX0_hunts ∈ lw_g := lw_gm (tb4 (List.mem_of_getElem? (i := 41) rfl)) rfl
theorem lk854 : Cond.methodLink RX5 74 yX5_alike ∈ lw_g := lw_gm (tb4 (List.mem_of_getElem? (i := 42) rfl)) rfl
theorem lk858 : Cond.methodLink RX5 93 yX0_gauge ∈ lw_g := lw_gm (tb4 (List.mem_of_getElem? (i := 46) rfl)) rfl
theorem lk859 : Cond.methodLink RX5 78 Lib.Math.max.name ∈ lw_g := lw_gm (tb4 (List.mem_of_getElem? (i := 47) rfl)) rfl
theorem lk860 : Cond.methodLink RX5 84 yX5_add ∈ lw_g := lw_gm (tb4 (List.mem_of_getElem? (i := 48) rfl)) rfl
theorem lk868 : Cond.methodLink RX7 288 yX5_leaves ∈ lw_g := lw_gm (tb4 (List.mem_of_getElem? (i := 56) rfl)) rfl
theorem lk872 : Cond.methodLink RX5 97 Lib.Math.min.name ∈ lw_g := lw_gm (tb4 (List.mem_of_getElem? (i := 60) rfl)) rfl
theorem lk875 : Cond.methodLink RX5 100 yX5_look ∈ lw_g := lw_gm (tb4 (List.mem_of_getElem? (i := 63) rfl)) rfl
theorem lk879 : Cond.methodLink RX5 104 yX5_same ∈ lw_g := lw_gm (tb4 (List.mem_of_getElem? (i := 67) rfl)) rfl
theorem lk886 : Cond.methodLink RX7 291 yX1_putHelper ∈ lw_g := lw_gm (tb4 (List.mem_of_getElem? (i := 74) rfl)) rfl
theorem lk890 : Cond.methodLink RX7 294 yX0_greatest ∈ lw_g := lw_gm (tb4 (List.mem_of_getElem? (i := 78) rfl)) rfl
theorem lk894 : Cond.methodLink RX0 110 yX0_solve ∈ lw_g := lw_gm (tb4 (List.mem_of_getElem? (i := 82) rfl)) rfl
theorem lk895 : Cond.methodLink RX0 113 yX0_gauge ∈ lw_g := lw_gm (tb4 (List.mem_of_getElem? (i := 83) rfl)) rfl
theorem lk896 : Cond.methodLink RX0 116 Lib.Math.max.name ∈ lw_g := lw_gm (tb4 (List.mem_of_getElem? (i := 84) rfl)) rfl
theorem lk901 : Cond.methodLink RX7 297 yX0_isUnder ∈ lw_g := lw_gm (tb4 (List.mem_of_getElem? (i := 89) rfl)) rfl
theorem lk905 : Cond.methodLink RX0 119 yX0_greatest ∈ lw_g := lw_gm (tb4 (List.mem_of_getElem? (i := 93) rfl)) rfl
theorem lk922 : Cond.methodLink RX7 304 yJ6_numberOfTrailingZeros_0f7a4 ∈ lw_g := lw_gm (tb4 (List.mem_of_getElem? (i := 110) rfl)) rfl
theorem lk925 : Cond.constant RJ6 264 65536 ∈ lw_g := lw_gm (tb4 (List.mem_of_getElem? (i := 113) rfl)) rfl
theorem lk930 : Cond.methodLink RX7 307 yX6_isSo ∈ lw_g := lw_gm (tb4 (List.mem_of_getElem? (i := 118) rfl)) rfl
theorem lk947 : Cond.methodLink RX7 310 yX1_logged ∈ lw_g := lw_gm (tb4 (List.mem_of_getElem? (i := 135) rfl)) rfl
theorem lk951 : Cond.methodLink RX1 88 Lib.Math.min.name ∈ lw_g := lw_gm (tb4 (List.mem_of_getElem? (i := 139) rfl)) rfl
theorem lk952 : Cond.methodLink RX7 317 yX1_logPlace ∈ lw_g := lw_gm (tb4 (List.mem_of_getElem? (i := 140) rfl)) rfl
theorem lk957 : Cond.methodLink RX7 320 yX1_load ∈ lw_g := lw_gm (tb4 (List.mem_of_getElem? (i := 145) rfl)) rfl
theorem lk958 : Cond.methodLink RX7 323 yX1_net ∈ lw_g := lw_gm (tb4 (List.mem_of_getElem? (i := 146) rfl)) rfl
theorem lk975 : Cond.methodLink RX7 332 yX1_notes ∈ lw_g := lw_gm (tb4 (List.mem_of_getElem? (i := 163) rfl)) rfl
theorem lk976 : Cond.methodLink RX7 338 yX1_nets ∈ lw_g := lw_gm (tb4 (List.mem_of_getElem? (i := 164) rfl)) rfl
theorem lk980 : Cond.methodLink RX1 83 yJ6_numberOfTrailingZeros_0f7a4 ∈ lw_g := lw_gm (tb4 (List.mem_of_getElem? (i := 168) rfl)) rfl
theorem lk981 : Cond.methodLink RX7 341 yX0_rowsThatAgree ∈ lw_g := lw_gm (tb4 (List.mem_of_getElem? (i := 169) rfl)) rfl
theorem lk995 : Fld RX8 84 TX8 0 := lw_gm (tb4 (List.mem_of_getElem? (i := 183) rfl)) rfl
theorem lk996 : Fld RX8 88 TX8 1 := lw_gm (tb4 (List.mem_of_getElem? (i := 184) rfl)) rfl
theorem lk997 : Fld RX8 7 TX8 2 := lw_gm (tb4 (List.mem_of_getElem? (i := 185) rfl)) rfl
theorem lk998 : Fld RX8 13 TX8 3 := lw_gm (tb4 (List.mem_of_getElem? (i := 186) rfl)) rfl
theorem lk999 : Fld RX8 16 TX8 4 := lw_gm (tb4 (List.mem_of_getElem? (i := 187) rfl)) rfl
theorem lk1000 : Fld RX8 19 TX8 5 := lw_gm (tb4 (List.mem_of_getElem? (i := 188) rfl)) rfl
theorem lk1001 : Fld RX8 91 TX8 6 := lw_gm (tb4 (List.mem_of_getElem? (i := 189) rfl)) rfl
theorem lk1002 : Fld RX8 22 TX8 7 := lw_gm (tb4 (List.mem_of_getElem? (i := 190) rfl)) rfl
theorem lk1003 : Fld RX8 25 TX8 8 := lw_gm (tb4 (List.mem_of_getElem? (i := 191) rfl)) rfl
theorem lk1004 : Fld RX8 29 TX8 9 := lw_gm (tb4 (List.mem_of_getElem? (i := 192) rfl)) rfl
theorem lk1005 : Fld RX8 32 TX8 10 := lw_gm (tb4 (List.mem_of_getElem? (i := 193) rfl)) rfl
theorem lk1006 : Fld RX8 35 TX8 11 := lw_gm (tb4 (List.mem_of_getElem? (i := 194) rfl)) rfl
theorem lk1007 : Fld RX8 39 TX8 12 := lw_gm (tb4 (List.mem_of_getElem? (i := 195) rfl)) rfl
theorem lk1008 : Fld RX8 42 TX8 13 := lw_gm (tb4 (List.mem_of_getElem? (i := 196) rfl)) rfl
theorem lk1009 : Fld RX8 188 TX8 14 := lw_gm (tb4 (List.mem_of_getElem? (i := 197) rfl)) rfl
theorem lk1010 : Fld RX8 45 TX8 15 := lw_gm (tb4 (List.mem_of_getElem? (i := 198) rfl)) rfl
theorem lk1011 : Fld RX8 48 TX8 16 := lw_gm (tb4 (List.mem_of_getElem? (i := 199) rfl)) rfl
theorem lk1012 : Fld RX8 51 TX8 17 := lw_gm (tb4 (List.mem_of_getElem? (i := 200) rfl)) rfl
theorem lk1013 : Fld RX8 219 TX8 18 := lw_gm (tb4 (List.mem_of_getElem? (i := 201) rfl)) rfl
theorem lk1014 : Fld RX8 54 TX8 19 := lw_gm (tb4 (List.mem_of_getElem? (i := 202) rfl)) rfl
theorem lk1015 : Fld RX8 57 TX8 20 := lw_gm (tb4 (List.mem_of_getElem? (i := 203) rfl)) rfl
theorem lk1016 : Fld RX8 231 TX8 21 := lw_gm (tb4 (List.mem_of_getElem? (i := 204) rfl)) rfl
theorem lk1017 : Fld RX8 192 TX8 22 := lw_gm (tb4 (List.mem_of_getElem? (i := 205) rfl)) rfl
theorem lk1018 : Fld RX8 195 TX8 23 := lw_gm (tb4 (List.mem_of_getElem? (i := 206) rfl)) rfl
theorem lk1019 : Fld RX8 198 TX8 24 := lw_gm (tb4 (List.mem_of_getElem? (i := 207) rfl)) rfl
theorem lk1020 : Fld RX8 201 TX8 25 := lw_gm (tb4 (List.mem_of_getElem? (i := 208) rfl)) rfl
theorem lk1021 : Fld RX8 60 TX8 26 := lw_gm (tb4 (List.mem_of_getElem? (i := 209) rfl)) rfl
theorem lk1022 : Fld RX8 63 TX8 27 := lw_gm (tb4 (List.mem_of_getElem? (i := 210) rfl)) rfl
theorem lk1023 : Fld RX8 66 TX8 28 := lw_gm (tb4 (List.mem_of_getElem? (i := 211) rfl)) rfl
theorem lk1024 : Fld RX8 69 TX8 29 := lw_gm (tb4 (List.mem_of_getElem? (i := 212) rfl)) rfl
theorem lk1025 : Fld RX8 72 TX8 30 := lw_gm (tb4 (List.mem_of_getElem? (i := 213) rfl)) rfl
theorem lk1026 : Fld RX8 297 TX8 31 := lw_gm (tb4 (List.mem_of_getElem? (i := 214) rfl)) rfl
theorem lk1027 : Fld RX8 75 TX8 32 := lw_gm (tb4 (List.mem_of_getElem? (i := 215) rfl)) rfl
theorem lk1028 : Fld RX8 78 TX8 33 := lw_gm (tb4 (List.mem_of_getElem? (i := 216) rfl)) rfl
theorem lk1029 : Fld RX8 81 TX8 34 := lw_gm (tb4 (List.mem_of_getElem? (i := 217) rfl)) rfl
theorem lk1105 : Cond.methodLink RX8 98 yX8_refuse ∈ lw_g := lw_gm (tb5 (List.mem_of_getElem? (i := 53) rfl)) rfl
theorem lk1109 : Cond.methodLink RX8 94 yX8_copy ∈ lw_g := lw_gm (tb5 (List.mem_of_getElem? (i := 57) rfl)) rfl
theorem lk1112 : Cond.methodLink RX8 102 yX8_tell ∈ lw_g := lw_gm (tb5 (List.mem_of_getElem? (i := 60) rfl)) rfl
theorem lk1120 : Cond.methodLink RX8 105 yX8_in ∈ lw_g := lw_gm (tb5 (List.mem_of_getElem? (i := 68) rfl)) rfl
theorem lk1131 : Cond.constantLong RX8 132 99 ∈ lw_g := lw_gm (tb5 (List.mem_of_getElem? (i := 79) rfl)) rfl
theorem lk1132 : Cond.constantLong RX8 134 4999 ∈ lw_g := lw_gm (tb5 (List.mem_of_getElem? (i := 80) rfl)) rfl
theorem lk1133 : Cond.methodLink RX8 136 yX8_remember ∈ lw_g := lw_gm (tb5 (List.mem_of_getElem? (i := 81) rfl)) rfl
theorem lk1137 : Cond.methodLink RX8 122 yX8_chamberAt ∈ lw_g := lw_gm (tb5 (List.mem_of_getElem? (i := 85) rfl)) rfl
theorem lk1144 : Cond.constantLong RX8 140 12 ∈ lw_g := lw_gm (tb5 (List.mem_of_getElem? (i := 92) rfl)) rfl
theorem lk1145 : Cond.methodLink RX8 109 yX8_isChamber ∈ lw_g := lw_gm (tb5 (List.mem_of_getElem? (i := 93) rfl)) rfl
theorem lk1149 : Cond.methodLink RX8 142 yX8_inSeries ∈ lw_g := lw_gm (tb5 (List.mem_of_getElem? (i := 97) rfl)) rfl
theorem lk1152 : Cond.methodLink RX8 146 yX8_weight ∈ lw_g := lw_gm (tb5 (List.mem_of_getElem? (i := 100) rfl)) rfl
theorem lk1156 : Cond.methodLink RX8 125 yX8_isAt ∈ lw_g := lw_gm (tb5 (List.mem_of_getElem? (i := 104) rfl)) rfl
theorem lk1160 : Cond.methodLink RX8 116 yX8_tubeAt ∈ lw_g := lw_gm (tb5 (List.mem_of_getElem? (i := 108) rfl)) rfl
theorem lk1163 : Cond.methodLink RX8 119 yX8_pumpAt ∈ lw_g := lw_gm (tb5 (List.mem_of_getElem? (i := 111) rfl)) rfl
theorem lk1166 : Cond.methodLink RX8 129 yX8_greatestSpeed ∈ lw_g := lw_gm (tb5 (List.mem_of_getElem? (i := 114) rfl)) rfl
theorem lk1174 : Cond.constantLong RX8 149 40 ∈ lw_g := lw_gm (tb5 (List.mem_of_getElem? (i := 122) rfl)) rfl
theorem lk1179 : Cond.constantLong RX8 151 5 ∈ lw_g := lw_gm (tb5 (List.mem_of_getElem? (i := 127) rfl)) rfl
theorem lk1180 : Cond.constantLong RX8 153 9999 ∈ lw_g := lw_gm (tb5 (List.mem_of_getElem? (i := 128) rfl)) rfl
theorem lk1181 : Cond.methodLink RX8 155 yX8_isPump ∈ lw_g := lw_gm (tb5 (List.mem_of_getElem? (i := 129) rfl)) rfl
theorem lk1189 : Cond.constantLong RX8 158 2 ∈ lw_g := lw_gm (tb5 (List.mem_of_getElem? (i := 137) rfl)) rfl
theorem lk1190 : Cond.constantLong RX8 160 9 ∈ lw_g := lw_gm (tb5 (List.mem_of_getElem? (i := 138) rfl)) rfl
theorem lk1195 : Cond.methodLink RX8 113 yX8_isTube ∈ lw_g := lw_gm (tb5 (List.mem_of_getElem? (i := 143) rfl)) rfl
theorem lk1207 : Cond.constantLong RX8 162 60 ∈ lw_g := lw_gm (tb5 (List.mem_of_getElem? (i := 155) rfl)) rfl
theorem lk1208 : Cond.methodLink RX8 164 yX8_isJoint ∈ lw_g := lw_gm (tb5 (List.mem_of_getElem? (i := 156) rfl)) rfl
theorem lk1216 : Cond.constantLong RX8 167 99999999 ∈ lw_g := lw_gm (tb5 (List.mem_of_getElem? (i := 164) rfl)) rfl
theorem lk1217 : Cond.constantLong RX8 169 4 ∈ lw_g := lw_gm (tb5 (List.mem_of_getElem? (i := 165) rfl)) rfl
theorem lk1218 : Cond.methodLink RX8 171 yX8_watchAt ∈ lw_g := lw_gm (tb5 (List.mem_of_getElem? (i := 166) rfl)) rfl
theorem lk1225 : Cond.methodLink RX8 174 yX8_isWatch ∈ lw_g := lw_gm (tb5 (List.mem_of_getElem? (i := 173) rfl)) rfl
theorem lk1233 : Cond.methodLink RX8 276 yX8_step ∈ lw_g := lw_gm (tb5 (List.mem_of_getElem? (i := 181) rfl)) rfl
theorem lk1237 : Cond.methodLink RX8 263 yX8_isSo ∈ lw_g := lw_gm (tb5 (List.mem_of_getElem? (i := 185) rfl)) rfl
theorem lk1241 : Cond.methodLink RX8 254 yX8_reckonNow ∈ lw_g := lw_gm (tb5 (List.mem_of_getElem? (i := 189) rfl)) rfl
theorem lk1245 : Cond.methodLink RX8 244 yX8_asItIs ∈ lw_g := lw_gm (tb5 (List.mem_of_getElem? (i := 193) rfl)) rfl
theorem lk1249 : Cond.methodLink RX8 247 yX8_reckon ∈ lw_g := lw_gm (tb5 (List.mem_of_getElem? (i := 197) rfl)) rfl
theorem lk1253 : Cond.methodLink RX8 225 yX8_layNets ∈ lw_g := lw_gm (tb5 (List.mem_of_getElem? (i := 201) rfl)) rfl
theorem lk1257 : Cond.methodLink RX8 177 yX8_isOpen ∈ lw_g := lw_gm (tb5 (List.mem_of_getElem? (i := 205) rfl)) rfl
theorem lk1261 : Cond.methodLink RX8 228 yX8_layComes ∈ lw_g := lw_gm (tb5 (List.mem_of_getElem? (i := 209) rfl)) rfl
theorem lk1265 : Cond.methodLink RX8 204 yX8_load ∈ lw_g := lw_gm (tb5 (List.mem_of_getElem? (i := 213) rfl)) rfl
theorem lk1269 : Cond.methodLink RX8 234 yX8_solve ∈ lw_g := lw_gm (tb5 (List.mem_of_getElem? (i := 217) rfl)) rfl
theorem lk1273 : Cond.methodLink RX8 207 yX8_runs ∈ lw_g := lw_gm (tb5 (List.mem_of_getElem? (i := 221) rfl)) rfl
theorem lk1277 : Cond.methodLink RX8 210 yX8_layTubes ∈ lw_g := lw_gm (tb5 (List.mem_of_getElem? (i := 225) rfl)) rfl
theorem lk1281 : Cond.methodLink RX8 213 yX8_unit ∈ lw_g := lw_gm (tb5 (List.mem_of_getElem? (i := 229) rfl)) rfl
theorem lk1285 : Cond.methodLink RX8 216 yX8_layCofactors ∈ lw_g := lw_gm (tb5 (List.mem_of_getElem? (i := 233) rfl)) rfl
theorem lk1289 : Cond.methodLink RX8 184 yX8_four ∈ lw_g := lw_gm (tb5 (List.mem_of_getElem? (i := 237) rfl)) rfl
theorem lk1293 : Cond.methodLink RX8 180 yX8_two ∈ lw_g := lw_gm (tb6 (List.mem_of_getElem? (i := 1) rfl)) rfl
theorem lk1297 : Cond.methodLink RX8 237 yX8_agrees ∈ lw_g := lw_gm (tb6 (List.mem_of_getElem? (i := 5) rfl)) rfl
theorem lk1301 : Cond.methodLink RX8 222 yX8_stageBy ∈ lw_g := lw_gm (tb6 (List.mem_of_getElem? (i := 9) rfl)) rfl
theorem lk1305 : Cond.methodLink RX8 241 yX8_nextStages ∈ lw_g := lw_gm (tb6 (List.mem_of_getElem? (i := 13) rfl)) rfl
theorem lk1309 : Cond.methodLink RX8 257 yX8_readingOf ∈ lw_g := lw_gm (tb6 (List.mem_of_getElem? (i := 17) rfl)) rfl
theorem lk1313 : Cond.constantLong RX8 251 1000 ∈ lw_g := lw_gm (tb6 (List.mem_of_getElem? (i := 21) rfl)) rfl
theorem lk1314 : Cond.constant RX8 253 99999999 ∈ lw_g := lw_gm (tb6 (List.mem_of_getElem? (i := 22) rfl)) rfl
theorem lk1315 : Cond.methodLink RX8 266 yX8_acts ∈ lw_g := lw_gm (tb6 (List.mem_of_getElem? (i := 23) rfl)) rfl
theorem lk1319 : Cond.methodLink RX8 260 yX8_becomes ∈ lw_g := lw_gm (tb6 (List.mem_of_getElem? (i := 27) rfl)) rfl
theorem lk1323 : Cond.methodLink RX8 269 yX8_trips ∈ lw_g := lw_gm (tb6 (List.mem_of_getElem? (i := 31) rfl)) rfl
theorem lk1327 : Cond.methodLink RX8 273 yX8_logs ∈ lw_g := lw_gm (tb6 (List.mem_of_getElem? (i := 35) rfl)) rfl
theorem lk1335 : Cond.constantLong RX8 279 (-1) ∈ lw_g := lw_gm (tb6 (List.mem_of_getElem? (i := 43) rfl)) rfl
theorem lk1344 : Cond.constantLong RX8 285 (-3) ∈ lw_g := lw_gm (tb6 (List.mem_of_getElem? (i := 52) rfl)) rfl
theorem lk1345 : Cond.constantLong RX8 287 (-2) ∈ lw_g := lw_gm (tb6 (List.mem_of_getElem? (i := 53) rfl)) rfl
theorem lk1346 : Cond.methodLink RX8 289 yX8_lowest ∈ lw_g := lw_gm (tb6 (List.mem_of_getElem? (i := 54) rfl)) rfl
theorem lk1349 : Cond.methodLink RX8 281 yX8_common ∈ lw_g := lw_gm (tb6 (List.mem_of_getElem? (i := 57) rfl)) rfl
theorem lk1360 : Cond.constantLong RX8 295 (-2147483648) ∈ lw_g := lw_gm (tb6 (List.mem_of_getElem? (i := 68) rfl)) rfl
theorem lk1377 : Cond.methodLink RX8 311 yX8_makeParallel ∈ lw_g := lw_gm (tb6 (List.mem_of_getElem? (i := 85) rfl)) rfl
theorem lk1381 : Cond.methodLink RX8 300 yX8_joinsSame ∈ lw_g := lw_gm (tb6 (List.mem_of_getElem? (i := 89) rfl)) rfl
theorem lk1385 : Cond.methodLink RX8 303 yX8_become ∈ lw_g := lw_gm (tb6 (List.mem_of_getElem? (i := 93) rfl)) rfl
theorem lk1389 : Cond.methodLink RX8 314 yX8_makeSeries ∈ lw_g := lw_gm (tb6 (List.mem_of_getElem? (i := 97) rfl)) rfl
theorem lk1393 : Cond.methodLink RX8 307 yX8_leaveOut ∈ lw_g := lw_gm (tb6 (List.mem_of_getElem? (i := 101) rfl)) rfl
theorem lk1401 : Cond.methodLink RX8 317 yX8_seek ∈ lw_g := lw_gm (tb6 (List.mem_of_getElem? (i := 109) rfl)) rfl
theorem lk1405 : Cond.methodLink RX8 320 yX8_notedOnes ∈ lw_g := lw_gm (tb6 (List.mem_of_getElem? (i := 113) rfl)) rfl
theorem lk1409 : Cond.methodLink RX8 323 yX8_reckonLeak ∈ lw_g := lw_gm (tb6 (List.mem_of_getElem? (i := 117) rfl)) rfl
theorem lk1413 : Cond.methodLink RX8 326 yX8_matches ∈ lw_g := lw_gm (tb6 (List.mem_of_getElem? (i := 121) rfl)) rfl
theorem lk1421 : Cond.methodLink RX8 335 yX8_leaves ∈ lw_g := lw_gm (tb6 (List.mem_of_getElem? (i := 129) rfl)) rfl
theorem lk1425 : Cond.methodLink RX8 329 yX8_laySigns ∈ lw_g := lw_gm (tb6 (List.mem_of_getElem? (i := 133) rfl)) rfl
theorem lk1429 : Cond.methodLink RX8 332 yX8_areAlike ∈ lw_g := lw_gm (tb6 (List.mem_of_getElem? (i := 137) rfl)) rfl
theorem lk1437 : Cond.methodLink RX8 339 yX8_hangs ∈ lw_g := lw_gm (tb6 (List.mem_of_getElem? (i := 145) rfl)) rfl
theorem lk1441 : Cond.methodLink RX8 343 yX8_bits ∈ lw_g := lw_gm (tb6 (List.mem_of_getElem? (i := 149) rfl)) rfl
theorem lk1444 : Cond.methodLink RX8 346 yX8_areOpen ∈ lw_g := lw_gm (tb6 (List.mem_of_getElem? (i := 152) rfl)) rfl
theorem lk1452 : Cond.methodLink RX8 349 yX8_reckonMore ∈ lw_g := lw_gm (tb6 (List.mem_of_getElem? (i := 160) rfl)) rfl
theorem lk1456 : Cond.methodLink RX8 352 yX8_greatestReading ∈ lw_g := lw_gm (tb6 (List.mem_of_getElem? (i := 164) rfl)) rfl
theorem lk1464 : Cond.methodLink RX8 355 yX8_areBelow ∈ lw_g := lw_gm (tb6 (List.mem_of_getElem? (i := 172) rfl)) rfl
theorem lk1468 : Cond.methodLink RX8 358 yX8_areBelowReckoned ∈ lw_g := lw_gm (tb6 (List.mem_of_getElem? (i := 176) rfl)) rfl
theorem lk1488 : Cond.methodLink RX8 362 yX8_trippedOnes ∈ lw_g := lw_gm (tb6 (List.mem_of_getElem? (i := 196) rfl)) rfl
theorem lk1492 : Cond.methodLink RX8 365 yX8_firstTripped ∈ lw_g := lw_gm (tb6 (List.mem_of_getElem? (i := 200) rfl)) rfl
theorem lk1520 : Cond.methodLink RX8 368 yX8_netBits ∈ lw_g := lw_gm (tb6 (List.mem_of_getElem? (i := 228) rfl)) rfl
theorem lk1528 : Cond.constantLong RX8 371 3 ∈ lw_g := lw_gm (tb6 (List.mem_of_getElem? (i := 236) rfl)) rfl
theorem lk1533 : Cond.constantLong RX8 373 8 ∈ lw_g := lw_gm (tb7 (List.mem_of_getElem? (i := 1) rfl)) rfl
theorem lk1542 : Cond.methodLink RX8 375 yX8_netMany ∈ lw_g := lw_gm (tb7 (List.mem_of_getElem? (i := 10) rfl)) rfl
theorem lk1546 : Cond.methodLink RX8 378 yX8_agreeing ∈ lw_g := lw_gm (tb7 (List.mem_of_getElem? (i := 14) rfl)) rfl
theorem lkNat : Cond.native arraycopyName ∈ lw_g := lw_gm (tb2 (List.mem_of_getElem? (i := 84) rfl)) rfl
theorem lkNatS : Cond.static arraycopyName ∈ lw_g := lw_gm (tb2 (List.mem_of_getElem? (i := 83) rfl)) rfl
theorem lkSys : Cond.initialized "java/lang/System" ∈ lw_g := lw_gm (tb1 (List.mem_of_getElem? (i := 9) rfl)) rfl
theorem lkMath : Cond.initialized "java/lang/Math" ∈ lw_g := lw_gm (tb1 (List.mem_of_getElem? (i := 11) rfl)) rfl
theorem ma_mxi_s : Cond.static Lib.Math.max.name ∈ lw_g := lw_gm (tb2 (List.mem_of_getElem? (i := 118) rfl)) rfl
theorem ma_mxi_c : Cond.code Lib.Math.max.name Lib.Math.max.code 2 (some .int) ∈ lw_g := lw_gm (tb2 (List.mem_of_getElem? (i := 119) rfl)) rfl
theorem ma_mni_s : Cond.static Lib.Math.min.name ∈ lw_g := lw_gm (tb4 (List.mem_of_getElem? (i := 61) rfl)) rfl
theorem ma_mni_c : Cond.code Lib.Math.min.name Lib.Math.min.code 2 (some .int) ∈ lw_g := lw_gm (tb4 (List.mem_of_getElem? (i := 62) rfl)) rfl
theorem ma_mxj_s : Cond.static Lib.MathLoose.max_long.x ∈ lw_g := lw_gm (tb2 (List.mem_of_getElem? (i := 107) rfl)) rfl
theorem ma_mxj_c : Cond.code Lib.MathLoose.max_long.x Lib.MathLoose.max_long.code 4 (some .long) ∈ lw_g := lw_gm (tb2 (List.mem_of_getElem? (i := 108) rfl)) rfl
theorem ma_mnj_s : Cond.static Lib.MathLoose.min_long.x ∈ lw_g := lw_gm (tb3 (List.mem_of_getElem? (i := 91) rfl)) rfl
theorem ma_mnj_c : Cond.code Lib.MathLoose.min_long.x Lib.MathLoose.min_long.code 4 (some .long) ∈ lw_g := lw_gm (tb3 (List.mem_of_getElem? (i := 92) rfl)) rfl
theorem ma_abj_s : Cond.static Lib.MathLoose.abs_long.x ∈ lw_g := lw_gm (tb3 (List.mem_of_getElem? (i := 168) rfl)) rfl
theorem ma_abj_c : Cond.code Lib.MathLoose.abs_long.x Lib.MathLoose.abs_long.code 2 (some .long) ∈ lw_g := lw_gm (tb3 (List.mem_of_getElem? (i := 169) rfl)) rfl
theorem uX0 : ∀ w ∈ u_ws RX0 TX0 12, w ∈ lw_g := fun w h => by
  obtain ⟨k, hk, rfl⟩ := List.mem_map.mp h
  have hk := List.mem_range.mp hk
  match k, hk with
  | 0, _ => exact lw_gm (tb1 (List.mem_of_getElem? (i := 128) rfl)) rfl
  | 1, _ => exact lw_gm (tb1 (List.mem_of_getElem? (i := 130) rfl)) rfl
  | 2, _ => exact lw_gm (tb1 (List.mem_of_getElem? (i := 132) rfl)) rfl
  | 3, _ => exact lw_gm (tb1 (List.mem_of_getElem? (i := 134) rfl)) rfl
  | 4, _ => exact lw_gm (tb1 (List.mem_of_getElem? (i := 136) rfl)) rfl
  | 5, _ => exact lw_gm (tb1 (List.mem_of_getElem? (i := 138) rfl)) rfl
  | 6, _ => exact lw_gm (tb1 (List.mem_of_getElem? (i := 140) rfl)) rfl
  | 7, _ => exact lw_gm (tb1 (List.mem_of_getElem? (i := 142) rfl)) rfl
  | 8, _ => exact lw_gm (tb1 (List.mem_of_getElem? (i := 144) rfl)) rfl
  | 9, _ => exact lw_gm (tb1 (List.mem_of_getElem? (i := 146) rfl)) rfl
  | 10, _ => exact lw_gm (tb1 (List.mem_of_getElem? (i := 148) rfl)) rfl
  | 11, _ => exact lw_gm (tb1 (List.mem_of_getElem? (i := 150) rfl)) rfl
  | k + 12, hk => exact absurd hk (by omega)
theorem kX0 : Cls 0 RX0 TX0 12 tyX0 := ⟨rfl, uX0, rfl, by decide, tyX0_ok, nmX0⟩
theorem uX1 : ∀ w ∈ u_ws RX1 TX1 14, w ∈ lw_g := fun w h => by
  obtain ⟨k, hk, rfl⟩ := List.mem_map.mp h
  have hk := List.mem_range.mp hk
  match k, hk with
  | 0, _ => exact lw_gm (tb1 (List.mem_of_getElem? (i := 76) rfl)) rfl
  | 1, _ => exact lw_gm (tb1 (List.mem_of_getElem? (i := 78) rfl)) rfl
  | 2, _ => exact lw_gm (tb1 (List.mem_of_getElem? (i := 80) rfl)) rfl
  | 3, _ => exact lw_gm (tb1 (List.mem_of_getElem? (i := 82) rfl)) rfl
  | 4, _ => exact lw_gm (tb1 (List.mem_of_getElem? (i := 84) rfl)) rfl
  | 5, _ => exact lw_gm (tb1 (List.mem_of_getElem? (i := 86) rfl)) rfl
  | 6, _ => exact lw_gm (tb1 (List.mem_of_getElem? (i := 88) rfl)) rfl
  | 7, _ => exact lw_gm (tb1 (List.mem_of_getElem? (i := 90) rfl)) rfl
  | 8, _ => exact lw_gm (tb1 (List.mem_of_getElem? (i := 92) rfl)) rfl
  | 9, _ => exact lw_gm (tb1 (List.mem_of_getElem? (i := 94) rfl)) rfl
  | 10, _ => exact lw_gm (tb1 (List.mem_of_getElem? (i := 96) rfl)) rfl
  | 11, _ => exact lw_gm (tb1 (List.mem_of_getElem? (i := 98) rfl)) rfl
  | 12, _ => exact lw_gm (tb1 (List.mem_of_getElem? (i := 100) rfl)) rfl
  | 13, _ => exact lw_gm (tb1 (List.mem_of_getElem? (i := 102) rfl)) rfl
  | k + 14, hk => exact absurd hk (by omega)
theorem kX1 : Cls 1 RX1 TX1 14 tyX1 := ⟨rfl, uX1, rfl, by decide, tyX1_ok, nmX1⟩
theorem uX3 : ∀ w ∈ u_ws RX3 TX3 4, w ∈ lw_g := fun w h => by
  obtain ⟨k, hk, rfl⟩ := List.mem_map.mp h
  have hk := List.mem_range.mp hk
  match k, hk with
  | 0, _ => exact lw_gm (tb2 (List.mem_of_getElem? (i := 10) rfl)) rfl
  | 1, _ => exact lw_gm (tb2 (List.mem_of_getElem? (i := 12) rfl)) rfl
  | 2, _ => exact lw_gm (tb2 (List.mem_of_getElem? (i := 14) rfl)) rfl
  | 3, _ => exact lw_gm (tb2 (List.mem_of_getElem? (i := 16) rfl)) rfl
  | k + 4, hk => exact absurd hk (by omega)
theorem kX3 : Cls 2 RX3 TX3 4 tyX3 := ⟨rfl, uX3, rfl, by decide, tyX3_ok, nmX3⟩
theorem uX4 : ∀ w ∈ u_ws RX4 TX4 6, w ∈ lw_g := fun w h => by
  obtain ⟨k, hk, rfl⟩ := List.mem_map.mp h
  have hk := List.mem_range.mp hk
  match k, hk with
  | 0, _ => exact lw_gm (tb1 (List.mem_of_getElem? (i := 223) rfl)) rfl
  | 1, _ => exact lw_gm (tb1 (List.mem_of_getElem? (i := 225) rfl)) rfl
  | 2, _ => exact lw_gm (tb1 (List.mem_of_getElem? (i := 227) rfl)) rfl
  | 3, _ => exact lw_gm (tb1 (List.mem_of_getElem? (i := 229) rfl)) rfl
  | 4, _ => exact lw_gm (tb1 (List.mem_of_getElem? (i := 231) rfl)) rfl
  | 5, _ => exact lw_gm (tb1 (List.mem_of_getElem? (i := 233) rfl)) rfl
  | k + 6, hk => exact absurd hk (by omega)
theorem kX4 : Cls 3 RX4 TX4 6 tyX4 := ⟨rfl, uX4, rfl, by decide, tyX4_ok, nmX4⟩
theorem uX5 : ∀ w ∈ u_ws RX5 TX5 9, w ∈ lw_g := fun w h => by
  obtain ⟨k, hk, rfl⟩ := List.mem_map.mp h
  have hk := List.mem_range.mp hk
  match k, hk with
  | 0, _ => exact lw_gm (tb1 (List.mem_of_getElem? (i := 189) rfl)) rfl
  | 1, _ => exact lw_gm (tb1 (List.mem_of_getElem? (i := 191) rfl)) rfl
  | 2, _ => exact lw_gm (tb1 (List.mem_of_getElem? (i := 193) rfl)) rfl
  | 3, _ => exact lw_gm (tb1 (List.mem_of_getElem? (i := 195) rfl)) rfl
  | 4, _ => exact lw_gm (tb1 (List.mem_of_getElem? (i := 197) rfl)) rfl
  | 5, _ => exact lw_gm (tb1 (List.mem_of_getElem? (i := 199) rfl)) rfl
  | 6, _ => exact lw_gm (tb1 (List.mem_of_getElem? (i := 201) rfl)) rfl
  | 7, _ => exact lw_gm (tb1 (List.mem_of_getElem? (i := 203) rfl)) rfl
  | 8, _ => exact lw_gm (tb1 (List.mem_of_getElem? (i := 205) rfl)) rfl
  | k + 9, hk => exact absurd hk (by omega)
theorem kX5 : Cls 4 RX5 TX5 9 tyX5 := ⟨rfl, uX5, rfl, by decide, tyX5_ok, nmX5⟩
theorem uX6 : ∀ w ∈ u_ws RX6 TX6 2, w ∈ lw_g := fun w h => by
  obtain ⟨k, hk, rfl⟩ := List.mem_map.mp h
  have hk := List.mem_range.mp hk
  match k, hk with
  | 0, _ => exact lw_gm (tb1 (List.mem_of_getElem? (i := 163) rfl)) rfl
  | 1, _ => exact lw_gm (tb1 (List.mem_of_getElem? (i := 165) rfl)) rfl
  | k + 2, hk => exact absurd hk (by omega)
theorem kX6 : Cls 5 RX6 TX6 2 tyX6 := ⟨rfl, uX6, rfl, by decide, tyX6_ok, nmX6⟩
theorem uX7 : ∀ w ∈ u_ws RX7 TX7 11, w ∈ lw_g := fun w h => by
  obtain ⟨k, hk, rfl⟩ := List.mem_map.mp h
  have hk := List.mem_range.mp hk
  match k, hk with
  | 0, _ => exact lw_gm (tb2 (List.mem_of_getElem? (i := 30) rfl)) rfl
  | 1, _ => exact lw_gm (tb2 (List.mem_of_getElem? (i := 32) rfl)) rfl
  | 2, _ => exact lw_gm (tb2 (List.mem_of_getElem? (i := 34) rfl)) rfl
  | 3, _ => exact lw_gm (tb2 (List.mem_of_getElem? (i := 36) rfl)) rfl
  | 4, _ => exact lw_gm (tb2 (List.mem_of_getElem? (i := 38) rfl)) rfl
  | 5, _ => exact lw_gm (tb2 (List.mem_of_getElem? (i := 40) rfl)) rfl
  | 6, _ => exact lw_gm (tb2 (List.mem_of_getElem? (i := 42) rfl)) rfl
  | 7, _ => exact lw_gm (tb2 (List.mem_of_getElem? (i := 44) rfl)) rfl
  | 8, _ => exact lw_gm (tb2 (List.mem_of_getElem? (i := 46) rfl)) rfl
  | 9, _ => exact lw_gm (tb2 (List.mem_of_getElem? (i := 48) rfl)) rfl
  | 10, _ => exact lw_gm (tb2 (List.mem_of_getElem? (i := 50) rfl)) rfl
  | k + 11, hk => exact absurd hk (by omega)
theorem kX7 : Cls 6 RX7 TX7 11 tyX7 := ⟨rfl, uX7, rfl, by decide, tyX7_ok, nmX7⟩
theorem uX8 : ∀ w ∈ u_ws RX8 TX8 35, w ∈ lw_g := fun w h => by
  obtain ⟨k, hk, rfl⟩ := List.mem_map.mp h
  have hk := List.mem_range.mp hk
  match k, hk with
  | 0, _ => exact lw_gm (tb4 (List.mem_of_getElem? (i := 218) rfl)) rfl
  | 1, _ => exact lw_gm (tb4 (List.mem_of_getElem? (i := 220) rfl)) rfl
  | 2, _ => exact lw_gm (tb4 (List.mem_of_getElem? (i := 222) rfl)) rfl
  | 3, _ => exact lw_gm (tb4 (List.mem_of_getElem? (i := 224) rfl)) rfl
  | 4, _ => exact lw_gm (tb4 (List.mem_of_getElem? (i := 226) rfl)) rfl
  | 5, _ => exact lw_gm (tb4 (List.mem_of_getElem? (i := 228) rfl)) rfl
  | 6, _ => exact lw_gm (tb4 (List.mem_of_getElem? (i := 230) rfl)) rfl
  | 7, _ => exact lw_gm (tb4 (List.mem_of_getElem? (i := 232) rfl)) rfl
  | 8, _ => exact lw_gm (tb4 (List.mem_of_getElem? (i := 234) rfl)) rfl
  | 9, _ => exact lw_gm (tb4 (List.mem_of_getElem? (i := 236) rfl)) rfl
  | 10, _ => exact lw_gm (tb4 (List.mem_of_getElem? (i := 238) rfl)) rfl
  | 11, _ => exact lw_gm (tb5 (List.mem_of_getElem? (i := 0) rfl)) rfl
  | 12, _ => exact lw_gm (tb5 (List.mem_of_getElem? (i := 2) rfl)) rfl
  | 13, _ => exact lw_gm (tb5 (List.mem_of_getElem? (i := 4) rfl)) rfl
  | 14, _ => exact lw_gm (tb5 (List.mem_of_getElem? (i := 6) rfl)) rfl
  | 15, _ => exact lw_gm (tb5 (List.mem_of_getElem? (i := 8) rfl)) rfl
  | 16, _ => exact lw_gm (tb5 (List.mem_of_getElem? (i := 10) rfl)) rfl
  | 17, _ => exact lw_gm (tb5 (List.mem_of_getElem? (i := 12) rfl)) rfl
  | 18, _ => exact lw_gm (tb5 (List.mem_of_getElem? (i := 14) rfl)) rfl
  | 19, _ => exact lw_gm (tb5 (List.mem_of_getElem? (i := 16) rfl)) rfl
  | 20, _ => exact lw_gm (tb5 (List.mem_of_getElem? (i := 18) rfl)) rfl
  | 21, _ => exact lw_gm (tb5 (List.mem_of_getElem? (i := 20) rfl)) rfl
  | 22, _ => exact lw_gm (tb5 (List.mem_of_getElem? (i := 22) rfl)) rfl
  | 23, _ => exact lw_gm (tb5 (List.mem_of_getElem? (i := 24) rfl)) rfl
  | 24, _ => exact lw_gm (tb5 (List.mem_of_getElem? (i := 26) rfl)) rfl
  | 25, _ => exact lw_gm (tb5 (List.mem_of_getElem? (i := 28) rfl)) rfl
  | 26, _ => exact lw_gm (tb5 (List.mem_of_getElem? (i := 30) rfl)) rfl
  | 27, _ => exact lw_gm (tb5 (List.mem_of_getElem? (i := 32) rfl)) rfl
  | 28, _ => exact lw_gm (tb5 (List.mem_of_getElem? (i := 34) rfl)) rfl
  | 29, _ => exact lw_gm (tb5 (List.mem_of_getElem? (i := 36) rfl)) rfl
  | 30, _ => exact lw_gm (tb5 (List.mem_of_getElem? (i := 38) rfl)) rfl
  | 31, _ => exact lw_gm (tb5 (List.mem_of_getElem? (i := 40) rfl)) rfl
  | 32, _ => exact lw_gm (tb5 (List.mem_of_getElem? (i := 42) rfl)) rfl
  | 33, _ => exact lw_gm (tb5 (List.mem_of_getElem? (i := 44) rfl)) rfl
  | 34, _ => exact lw_gm (tb5 (List.mem_of_getElem? (i := 46) rfl)) rfl
  | k + 35, hk => exact absurd hk (by omega)
theorem kX8 : Cls 7 RX8 TX8 35 tyX8 := ⟨rfl, uX8, rfl, by decide, tyX8_ok, nmX8⟩
theorem nJ6 : Cond.initialized RJ6 ∈ lw_g := lw_gm (tb1 (List.mem_of_getElem? (i := 13) rfl)) rfl
theorem hJ6_bitCount_0f7a4 : Mts yJ6_bitCount_0f7a4 cJ6_bitCount_0f7a4 1 (some .int) 1 := ⟨⟨lw_gm (tb3 (List.mem_of_getElem? (i := 116) rfl)) rfl, nJ6, lw_gm (tb3 (List.mem_of_getElem? (i := 117) rfl)) rfl⟩, by decide +kernel, by decide +kernel, by decide +kernel⟩
theorem hJ6_numberOfTrailingZeros_0f7a4 : Mts yJ6_numberOfTrailingZeros_0f7a4 cJ6_numberOfTrailingZeros_0f7a4 2 (some .int) 1 := ⟨⟨lw_gm (tb4 (List.mem_of_getElem? (i := 111) rfl)) rfl, nJ6, lw_gm (tb4 (List.mem_of_getElem? (i := 112) rfl)) rfl⟩, by decide +kernel, by decide +kernel, by decide +kernel⟩
theorem nJ7 : Cond.initialized RJ7 ∈ lw_g := lw_gm (tb1 (List.mem_of_getElem? (i := 12) rfl)) rfl
theorem hJ7_fill_53178 : Mts yJ7_fill_53178 cJ7_fill_53178 4 none 2 := ⟨⟨lw_gm (tb2 (List.mem_of_getElem? (i := 225) rfl)) rfl, nJ7, lw_gm (tb2 (List.mem_of_getElem? (i := 226) rfl)) rfl⟩, by decide +kernel, by decide +kernel, by decide +kernel⟩
theorem hJ7_fill_d0a16 : Mts yJ7_fill_d0a16 cJ7_fill_d0a16 5 none 2 := ⟨⟨lw_gm (tb3 (List.mem_of_getElem? (i := 211) rfl)) rfl, nJ7, lw_gm (tb3 (List.mem_of_getElem? (i := 212) rfl)) rfl⟩, by decide +kernel, by decide +kernel, by decide +kernel⟩
theorem nX0 : Cond.initialized RX0 ∈ lw_g := lw_gm (tb1 (List.mem_of_getElem? (i := 3) rfl)) rfl
theorem hX0_isInverted : Mth yX0_isInverted RX0 cX0_isInverted 2 (some .boolean) 1 := ⟨⟨lw_gm (tb3 (List.mem_of_getElem? (i := 14) rfl)) rfl, lw_gm (tb0 (List.mem_of_getElem? (i := 10) rfl)) rfl, nX0, lw_gm (tb3 (List.mem_of_getElem? (i := 15) rfl)) rfl⟩, rfl, by decide +kernel, by decide +kernel, by decide +kernel⟩
theorem hX0_runs : Mth yX0_runs RX0 cX0_runs 2 (some .boolean) 1 := ⟨⟨lw_gm (tb3 (List.mem_of_getElem? (i := 22) rfl)) rfl, lw_gm (tb0 (List.mem_of_getElem? (i := 12) rfl)) rfl, nX0, lw_gm (tb3 (List.mem_of_getElem? (i := 23) rfl)) rfl⟩, rfl, by decide +kernel, by decide +kernel, by decide +kernel⟩
theorem hX0_comesIn : Mth yX0_comesIn RX0 cX0_comesIn 3 (some .boolean) 1 := ⟨⟨lw_gm (tb3 (List.mem_of_getElem? (i := 59) rfl)) rfl, lw_gm (tb0 (List.mem_of_getElem? (i := 19) rfl)) rfl, nX0, lw_gm (tb3 (List.mem_of_getElem? (i := 60) rfl)) rfl⟩, rfl, by decide +kernel, by decide +kernel, by decide +kernel⟩
theorem hX0_isStill : Mth yX0_isStill RX0 cX0_isStill 3 (some .boolean) 2 := ⟨⟨lw_gm (tb3 (List.mem_of_getElem? (i := 41) rfl)) rfl, lw_gm (tb0 (List.mem_of_getElem? (i := 16) rfl)) rfl, nX0, lw_gm (tb3 (List.mem_of_getElem? (i := 42) rfl)) rfl⟩, rfl, by decide +kernel, by decide +kernel, by decide +kernel⟩
theorem hX0_placeOf : Mth yX0_placeOf RX0 cX0_placeOf 2 (some .int) 1 := ⟨⟨lw_gm (tb3 (List.mem_of_getElem? (i := 29) rfl)) rfl, lw_gm (tb0 (List.mem_of_getElem? (i := 13) rfl)) rfl, nX0, lw_gm (tb3 (List.mem_of_getElem? (i := 30) rfl)) rfl⟩, rfl, by decide +kernel, by decide +kernel, by decide +kernel⟩
theorem hX0_upperAt : Mth yX0_upperAt RX0 cX0_upperAt 6 (some .long) 2 := ⟨⟨lw_gm (tb3 (List.mem_of_getElem? (i := 63) rfl)) rfl, lw_gm (tb0 (List.mem_of_getElem? (i := 20) rfl)) rfl, nX0, lw_gm (tb3 (List.mem_of_getElem? (i := 64) rfl)) rfl⟩, rfl, by decide +kernel, by decide +kernel, by decide +kernel⟩
theorem hX0_stageBy : Mth yX0_stageBy RX0 cX0_stageBy 8 (some .int) 2 := ⟨⟨lw_gm (tb3 (List.mem_of_getElem? (i := 55) rfl)) rfl, lw_gm (tb0 (List.mem_of_getElem? (i := 18) rfl)) rfl, nX0, lw_gm (tb3 (List.mem_of_getElem? (i := 56) rfl)) rfl⟩, rfl, by decide +kernel, by decide +kernel, by decide +kernel⟩
theorem hX0_stageIn : Mts yX0_stageIn cX0_stageIn 3 (some .int) 2 := ⟨⟨lw_gm (tb3 (List.mem_of_getElem? (i := 25) rfl)) rfl, nX0, lw_gm (tb3 (List.mem_of_getElem? (i := 26) rfl)) rfl⟩, by decide +kernel, by decide +kernel, by decide +kernel⟩
theorem hX0_agrees : Mth yX0_agrees RX0 cX0_agrees 3 (some .boolean) 1 := ⟨⟨lw_gm (tb3 (List.mem_of_getElem? (i := 51) rfl)) rfl, lw_gm (tb0 (List.mem_of_getElem? (i := 17) rfl)) rfl, nX0, lw_gm (tb3 (List.mem_of_getElem? (i := 52) rfl)) rfl⟩, rfl, by decide +kernel, by decide +kernel, by decide +kernel⟩
theorem hX0_canBe : Mth yX0_canBe RX0 cX0_canBe 3 (some .boolean) 1 := ⟨⟨lw_gm (tb3 (List.mem_of_getElem? (i := 18) rfl)) rfl, lw_gm (tb0 (List.mem_of_getElem? (i := 11) rfl)) rfl, nX0, lw_gm (tb3 (List.mem_of_getElem? (i := 19) rfl)) rfl⟩, rfl, by decide +kernel, by decide +kernel, by decide +kernel⟩
theorem hX0_differs : Mth yX0_differs RX0 cX0_differs 4 (some .boolean) 2 := ⟨⟨lw_gm (tb3 (List.mem_of_getElem? (i := 2) rfl)) rfl, lw_gm (tb0 (List.mem_of_getElem? (i := 8) rfl)) rfl, nX0, lw_gm (tb3 (List.mem_of_getElem? (i := 3) rfl)) rfl⟩, rfl, by decide +kernel, by decide +kernel, by decide +kernel⟩
theorem hX0_fillMatrix : Mth yX0_fillMatrix RX0 cX0_fillMatrix 10 none 1 := ⟨⟨lw_gm (tb3 (List.mem_of_getElem? (i := 37) rfl)) rfl, lw_gm (tb0 (List.mem_of_getElem? (i := 15) rfl)) rfl, nX0, lw_gm (tb3 (List.mem_of_getElem? (i := 38) rfl)) rfl⟩, rfl, by decide +kernel, by decide +kernel, by decide +kernel⟩
theorem hX0_isEndless : Mth yX0_isEndless RX0 cX0_isEndless 2 (some .boolean) 1 := ⟨⟨lw_gm (tb3 (List.mem_of_getElem? (i := 83) rfl)) rfl, lw_gm (tb3 (List.mem_of_getElem? (i := 84) rfl)) rfl, nX0, lw_gm (tb3 (List.mem_of_getElem? (i := 85) rfl)) rfl⟩, rfl, by decide +kernel, by decide +kernel, by decide +kernel⟩
theorem nX2 : Cond.initialized RX2 ∈ lw_g := lw_gm (tb1 (List.mem_of_getElem? (i := 10) rfl)) rfl
theorem hX2_over : Mts yX2_over cX2_over 4 (some .long) 2 := ⟨⟨lw_gm (tb2 (List.mem_of_getElem? (i := 104) rfl)) rfl, nX2, lw_gm (tb2 (List.mem_of_getElem? (i := 105) rfl)) rfl⟩, by decide +kernel, by decide +kernel, by decide +kernel⟩
theorem hX0_gauge : Mth yX0_gauge RX0 cX0_gauge 2 (some .int) 1 := ⟨⟨lw_gm (tb3 (List.mem_of_getElem? (i := 79) rfl)) rfl, lw_gm (tb3 (List.mem_of_getElem? (i := 80) rfl)) rfl, nX0, lw_gm (tb3 (List.mem_of_getElem? (i := 81) rfl)) rfl⟩, rfl, by decide +kernel, by decide +kernel, by decide +kernel⟩
theorem hX0_netsWithoutSpeed : Mth yX0_netsWithoutSpeed RX0 cX0_netsWithoutSpeed 3 (some .int) 0 := ⟨⟨lw_gm (tb3 (List.mem_of_getElem? (i := 33) rfl)) rfl, lw_gm (tb0 (List.mem_of_getElem? (i := 14) rfl)) rfl, nX0, lw_gm (tb3 (List.mem_of_getElem? (i := 34) rfl)) rfl⟩, rfl, by decide +kernel, by decide +kernel, by decide +kernel⟩
theorem hX2_clearColumn : Mts yX2_clearColumn cX2_clearColumn 15 none 5 := ⟨⟨lw_gm (tb3 (List.mem_of_getElem? (i := 47) rfl)) rfl, nX2, lw_gm (tb3 (List.mem_of_getElem? (i := 48) rfl)) rfl⟩, by decide +kernel, by decide +kernel, by decide +kernel⟩
theorem hX2_invert : Mts yX2_invert cX2_invert 8 (some .long) 2 := ⟨⟨lw_gm (tb3 (List.mem_of_getElem? (i := 44) rfl)) rfl, nX2, lw_gm (tb3 (List.mem_of_getElem? (i := 45) rfl)) rfl⟩, by decide +kernel, by decide +kernel, by decide +kernel⟩
theorem hX0_prepare : Mth yX0_prepare RX0 cX0_prepare 3 none 1 := ⟨⟨lw_gm (tb3 (List.mem_of_getElem? (i := 10) rfl)) rfl, lw_gm (tb0 (List.mem_of_getElem? (i := 9) rfl)) rfl, nX0, lw_gm (tb3 (List.mem_of_getElem? (i := 11) rfl)) rfl⟩, rfl, by decide +kernel, by decide +kernel, by decide +kernel⟩
theorem hX0_tellPressures : Mth yX0_tellPressures RX0 cX0_tellPressures 3 none 0 := ⟨⟨lw_gm (tb3 (List.mem_of_getElem? (i := 68) rfl)) rfl, lw_gm (tb0 (List.mem_of_getElem? (i := 21) rfl)) rfl, nX0, lw_gm (tb3 (List.mem_of_getElem? (i := 69) rfl)) rfl⟩, rfl, by decide +kernel, by decide +kernel, by decide +kernel⟩
theorem nX1 : Cond.initialized RX1 ∈ lw_g := lw_gm (tb1 (List.mem_of_getElem? (i := 2) rfl)) rfl
theorem hX1_fromWalls : Mth yX1_fromWalls RX1 cX1_fromWalls 2 (some .int) 1 := ⟨⟨lw_gm (tb2 (List.mem_of_getElem? (i := 233) rfl)) rfl, lw_gm (tb2 (List.mem_of_getElem? (i := 234) rfl)) rfl, nX1, lw_gm (tb2 (List.mem_of_getElem? (i := 235) rfl)) rfl⟩, rfl, by decide +kernel, by decide +kernel, by decide +kernel⟩
theorem hX1_load : Mth yX1_load RX1 cX1_load 2 (some .int) 1 := ⟨⟨lw_gm (tb2 (List.mem_of_getElem? (i := 229) rfl)) rfl, lw_gm (tb2 (List.mem_of_getElem? (i := 230) rfl)) rfl, nX1, lw_gm (tb2 (List.mem_of_getElem? (i := 231) rfl)) rfl⟩, rfl, by decide +kernel, by decide +kernel, by decide +kernel⟩
theorem hX1_twiceLeak : Mth yX1_twiceLeak RX1 cX1_twiceLeak 4 (some .int) 1 := ⟨⟨lw_gm (tb2 (List.mem_of_getElem? (i := 237) rfl)) rfl, lw_gm (tb2 (List.mem_of_getElem? (i := 238) rfl)) rfl, nX1, lw_gm (tb2 (List.mem_of_getElem? (i := 239) rfl)) rfl⟩, rfl, by decide +kernel, by decide +kernel, by decide +kernel⟩
theorem hX0_write : Mth yX0_write RX0 cX0_write 6 none 1 := ⟨⟨lw_gm (tb2 (List.mem_of_getElem? (i := 222) rfl)) rfl, lw_gm (tb0 (List.mem_of_getElem? (i := 7) rfl)) rfl, nX0, lw_gm (tb2 (List.mem_of_getElem? (i := 223) rfl)) rfl⟩, rfl, by decide +kernel, by decide +kernel, by decide +kernel⟩
theorem hX1_net : Mth yX1_net RX1 cX1_net 6 (some .int) 1 := ⟨⟨lw_gm (tb3 (List.mem_of_getElem? (i := 5) rfl)) rfl, lw_gm (tb3 (List.mem_of_getElem? (i := 6) rfl)) rfl, nX1, lw_gm (tb3 (List.mem_of_getElem? (i := 7) rfl)) rfl⟩, rfl, by decide +kernel, by decide +kernel, by decide +kernel⟩
theorem hX0_solve : Mth yX0_solve RX0 cX0_solve 4 none 1 := ⟨⟨lw_gm (tb2 (List.mem_of_getElem? (i := 217) rfl)) rfl, lw_gm (tb2 (List.mem_of_getElem? (i := 218) rfl)) rfl, nX0, lw_gm (tb2 (List.mem_of_getElem? (i := 219) rfl)) rfl⟩, rfl, by decide +kernel, by decide +kernel, by decide +kernel⟩
theorem hX0_greatest : Mth yX0_greatest RX0 cX0_greatest 4 (some .int) 1 := ⟨⟨lw_gm (tb4 (List.mem_of_getElem? (i := 79) rfl)) rfl, lw_gm (tb4 (List.mem_of_getElem? (i := 80) rfl)) rfl, nX0, lw_gm (tb4 (List.mem_of_getElem? (i := 81) rfl)) rfl⟩, rfl, by decide +kernel, by decide +kernel, by decide +kernel⟩
theorem hX0_hunts : Mth yX0_hunts RX0 cX0_hunts 1 (some .boolean) 0 := ⟨⟨lw_gm (tb3 (List.mem_of_getElem? (i := 75) rfl)) rfl, lw_gm (tb3 (List.mem_of_getElem? (i := 76) rfl)) rfl, nX0, lw_gm (tb3 (List.mem_of_getElem? (i := 77) rfl)) rfl⟩, rfl, by decide +kernel, by decide +kernel, by decide +kernel⟩
theorem hX0_isUnder : Mth yX0_isUnder RX0 cX0_isUnder 4 (some .boolean) 2 := ⟨⟨lw_gm (tb4 (List.mem_of_getElem? (i := 90) rfl)) rfl, lw_gm (tb4 (List.mem_of_getElem? (i := 91) rfl)) rfl, nX0, lw_gm (tb4 (List.mem_of_getElem? (i := 92) rfl)) rfl⟩, rfl, by decide +kernel, by decide +kernel, by decide +kernel⟩
theorem hX0_rowsThatAgree : Mth yX0_rowsThatAgree RX0 cX0_rowsThatAgree 3 (some .int) 0 := ⟨⟨lw_gm (tb4 (List.mem_of_getElem? (i := 170) rfl)) rfl, lw_gm (tb4 (List.mem_of_getElem? (i := 171) rfl)) rfl, nX0, lw_gm (tb4 (List.mem_of_getElem? (i := 172) rfl)) rfl⟩, rfl, by decide +kernel, by decide +kernel, by decide +kernel⟩
theorem hX0_stageNow : Mth yX0_stageNow RX0 cX0_stageNow 2 (some .int) 1 := ⟨⟨lw_gm (tb3 (List.mem_of_getElem? (i := 185) rfl)) rfl, lw_gm (tb3 (List.mem_of_getElem? (i := 186) rfl)) rfl, nX0, lw_gm (tb3 (List.mem_of_getElem? (i := 187) rfl)) rfl⟩, rfl, by decide +kernel, by decide +kernel, by decide +kernel⟩
theorem hX1_put : Mts yX1_put cX1_put 4 (some .boolean) 3 := ⟨⟨lw_gm (tb3 (List.mem_of_getElem? (i := 98) rfl)) rfl, nX1, lw_gm (tb3 (List.mem_of_getElem? (i := 99) rfl)) rfl⟩, by decide +kernel, by decide +kernel, by decide +kernel⟩
theorem hX1_act : Mth yX1_act RX1 cX1_act 3 (some .boolean) 2 := ⟨⟨lw_gm (tb3 (List.mem_of_getElem? (i := 94) rfl)) rfl, lw_gm (tb3 (List.mem_of_getElem? (i := 95) rfl)) rfl, nX1, lw_gm (tb3 (List.mem_of_getElem? (i := 96) rfl)) rfl⟩, rfl, by decide +kernel, by decide +kernel, by decide +kernel⟩
theorem hX1_addChamber : Mth yX1_addChamber RX1 cX1_addChamber 4 (some .int) 2 := ⟨⟨lw_gm (tb2 (List.mem_of_getElem? (i := 86) rfl)) rfl, lw_gm (tb2 (List.mem_of_getElem? (i := 87) rfl)) rfl, nX1, lw_gm (tb2 (List.mem_of_getElem? (i := 88) rfl)) rfl⟩, rfl, by decide +kernel, by decide +kernel, by decide +kernel⟩
theorem hX1_addPump : Mth yX1_addPump RX1 cX1_addPump 4 (some .int) 2 := ⟨⟨lw_gm (tb2 (List.mem_of_getElem? (i := 129) rfl)) rfl, lw_gm (tb2 (List.mem_of_getElem? (i := 130) rfl)) rfl, nX1, lw_gm (tb2 (List.mem_of_getElem? (i := 131) rfl)) rfl⟩, rfl, by decide +kernel, by decide +kernel, by decide +kernel⟩
theorem hX1_addTube : Mth yX1_addTube RX1 cX1_addTube 5 (some .int) 3 := ⟨⟨lw_gm (tb2 (List.mem_of_getElem? (i := 121) rfl)) rfl, lw_gm (tb2 (List.mem_of_getElem? (i := 122) rfl)) rfl, nX1, lw_gm (tb2 (List.mem_of_getElem? (i := 123) rfl)) rfl⟩, rfl, by decide +kernel, by decide +kernel, by decide +kernel⟩
theorem hX1_addWatch : Mth yX1_addWatch RX1 cX1_addWatch 7 (some .int) 5 := ⟨⟨lw_gm (tb2 (List.mem_of_getElem? (i := 189) rfl)) rfl, lw_gm (tb2 (List.mem_of_getElem? (i := 190) rfl)) rfl, nX1, lw_gm (tb2 (List.mem_of_getElem? (i := 191) rfl)) rfl⟩, rfl, by decide +kernel, by decide +kernel, by decide +kernel⟩
theorem hX1_bake : Mth yX1_bake RX1 cX1_bake 2 none 0 := ⟨⟨lw_gm (tb3 (List.mem_of_getElem? (i := 112) rfl)) rfl, lw_gm (tb3 (List.mem_of_getElem? (i := 113) rfl)) rfl, nX1, lw_gm (tb3 (List.mem_of_getElem? (i := 114) rfl)) rfl⟩, rfl, by decide +kernel, by decide +kernel, by decide +kernel⟩
theorem hX1_copyRows : Mts yX1_copyRows cX1_copyRows 4 none 3 := ⟨⟨lw_gm (tb2 (List.mem_of_getElem? (i := 80) rfl)) rfl, nX1, lw_gm (tb2 (List.mem_of_getElem? (i := 81) rfl)) rfl⟩, by decide +kernel, by decide +kernel, by decide +kernel⟩
theorem hX1_copyFrom : Mth yX1_copyFrom RX1 cX1_copyFrom 2 none 1 := ⟨⟨lw_gm (tb2 (List.mem_of_getElem? (i := 76) rfl)) rfl, lw_gm (tb2 (List.mem_of_getElem? (i := 77) rfl)) rfl, nX1, lw_gm (tb2 (List.mem_of_getElem? (i := 78) rfl)) rfl⟩, rfl, by decide +kernel, by decide +kernel, by decide +kernel⟩
theorem hX1_flip : Mth yX1_flip RX1 cX1_flip 3 (some .int) 2 := ⟨⟨lw_gm (tb2 (List.mem_of_getElem? (i := 164) rfl)) rfl, lw_gm (tb2 (List.mem_of_getElem? (i := 165) rfl)) rfl, nX1, lw_gm (tb2 (List.mem_of_getElem? (i := 166) rfl)) rfl⟩, rfl, by decide +kernel, by decide +kernel, by decide +kernel⟩
theorem hX1_hang : Mth yX1_hang RX1 cX1_hang 3 (some .boolean) 2 := ⟨⟨lw_gm (tb3 (List.mem_of_getElem? (i := 201) rfl)) rfl, lw_gm (tb3 (List.mem_of_getElem? (i := 202) rfl)) rfl, nX1, lw_gm (tb3 (List.mem_of_getElem? (i := 203) rfl)) rfl⟩, rfl, by decide +kernel, by decide +kernel, by decide +kernel⟩
theorem hX1_isJoint : Mth yX1_isJoint RX1 cX1_isJoint 2 (some .boolean) 1 := ⟨⟨lw_gm (tb2 (List.mem_of_getElem? (i := 176) rfl)) rfl, lw_gm (tb2 (List.mem_of_getElem? (i := 177) rfl)) rfl, nX1, lw_gm (tb2 (List.mem_of_getElem? (i := 178) rfl)) rfl⟩, rfl, by decide +kernel, by decide +kernel, by decide +kernel⟩
theorem hX1_logPlace : Mts yX1_logPlace cX1_logPlace 2 (some .int) 2 := ⟨⟨lw_gm (tb3 (List.mem_of_getElem? (i := 109) rfl)) rfl, nX1, lw_gm (tb3 (List.mem_of_getElem? (i := 110) rfl)) rfl⟩, by decide +kernel, by decide +kernel, by decide +kernel⟩
theorem hX1_logged : Mth yX1_logged RX1 cX1_logged 1 (some .int) 0 := ⟨⟨lw_gm (tb4 (List.mem_of_getElem? (i := 136) rfl)) rfl, lw_gm (tb4 (List.mem_of_getElem? (i := 137) rfl)) rfl, nX1, lw_gm (tb4 (List.mem_of_getElem? (i := 138) rfl)) rfl⟩, rfl, by decide +kernel, by decide +kernel, by decide +kernel⟩
theorem hX1_nets : Mth yX1_nets RX1 cX1_nets 3 (some .int) 0 := ⟨⟨lw_gm (tb4 (List.mem_of_getElem? (i := 165) rfl)) rfl, lw_gm (tb4 (List.mem_of_getElem? (i := 166) rfl)) rfl, nX1, lw_gm (tb4 (List.mem_of_getElem? (i := 167) rfl)) rfl⟩, rfl, by decide +kernel, by decide +kernel, by decide +kernel⟩
theorem hX1_notes : Mth yX1_notes RX1 cX1_notes 3 (some .int) 0 := ⟨⟨lw_gm (tb4 (List.mem_of_getElem? (i := 31) rfl)) rfl, lw_gm (tb4 (List.mem_of_getElem? (i := 32) rfl)) rfl, nX1, lw_gm (tb4 (List.mem_of_getElem? (i := 33) rfl)) rfl⟩, rfl, by decide +kernel, by decide +kernel, by decide +kernel⟩
theorem hX1_putHelper : Mth yX1_putHelper RX1 cX1_putHelper 3 none 2 := ⟨⟨lw_gm (tb4 (List.mem_of_getElem? (i := 75) rfl)) rfl, lw_gm (tb4 (List.mem_of_getElem? (i := 76) rfl)) rfl, nX1, lw_gm (tb4 (List.mem_of_getElem? (i := 77) rfl)) rfl⟩, rfl, by decide +kernel, by decide +kernel, by decide +kernel⟩
theorem hX1_putLeak : Mth yX1_putLeak RX1 cX1_putLeak 3 none 2 := ⟨⟨lw_gm (tb2 (List.mem_of_getElem? (i := 180) rfl)) rfl, lw_gm (tb2 (List.mem_of_getElem? (i := 181) rfl)) rfl, nX1, lw_gm (tb2 (List.mem_of_getElem? (i := 182) rfl)) rfl⟩, rfl, by decide +kernel, by decide +kernel, by decide +kernel⟩
theorem hX1_removeWatch : Mth yX1_removeWatch RX1 cX1_removeWatch 3 (some .int) 1 := ⟨⟨lw_gm (tb2 (List.mem_of_getElem? (i := 201) rfl)) rfl, lw_gm (tb2 (List.mem_of_getElem? (i := 202) rfl)) rfl, nX1, lw_gm (tb2 (List.mem_of_getElem? (i := 203) rfl)) rfl⟩, rfl, by decide +kernel, by decide +kernel, by decide +kernel⟩
theorem hX1_topSpeed : Mth yX1_topSpeed RX1 cX1_topSpeed 2 (some .int) 1 := ⟨⟨lw_gm (tb2 (List.mem_of_getElem? (i := 114) rfl)) rfl, lw_gm (tb2 (List.mem_of_getElem? (i := 115) rfl)) rfl, nX1, lw_gm (tb2 (List.mem_of_getElem? (i := 116) rfl)) rfl⟩, rfl, by decide +kernel, by decide +kernel, by decide +kernel⟩
theorem hX1_weight : Mth yX1_weight RX1 cX1_weight 4 (some .int) 1 := ⟨⟨lw_gm (tb2 (List.mem_of_getElem? (i := 110) rfl)) rfl, lw_gm (tb2 (List.mem_of_getElem? (i := 111) rfl)) rfl, nX1, lw_gm (tb2 (List.mem_of_getElem? (i := 112) rfl)) rfl⟩, rfl, by decide +kernel, by decide +kernel, by decide +kernel⟩
theorem hX2_divisor : Mts yX2_divisor cX2_divisor 11 (some .long) 2 := ⟨⟨lw_gm (tb3 (List.mem_of_getElem? (i := 165) rfl)) rfl, nX2, lw_gm (tb3 (List.mem_of_getElem? (i := 166) rfl)) rfl⟩, by decide +kernel, by decide +kernel, by decide +kernel⟩
theorem hX2_term : Mts yX2_term cX2_term 7 (some .long) 3 := ⟨⟨lw_gm (tb3 (List.mem_of_getElem? (i := 162) rfl)) rfl, nX2, lw_gm (tb3 (List.mem_of_getElem? (i := 163) rfl)) rfl⟩, by decide +kernel, by decide +kernel, by decide +kernel⟩
theorem nX3 : Cond.initialized RX3 ∈ lw_g := lw_gm (tb1 (List.mem_of_getElem? (i := 7) rfl)) rfl
theorem hX3_forget : Mth yX3_forget RX3 cX3_forget 1 none 0 := ⟨⟨lw_gm (tb3 (List.mem_of_getElem? (i := 150) rfl)) rfl, lw_gm (tb3 (List.mem_of_getElem? (i := 151) rfl)) rfl, nX3, lw_gm (tb3 (List.mem_of_getElem? (i := 152) rfl)) rfl⟩, rfl, by decide +kernel, by decide +kernel, by decide +kernel⟩
theorem hX3_keep : Mth yX3_keep RX3 cX3_keep 4 none 2 := ⟨⟨lw_gm (tb2 (List.mem_of_getElem? (i := 72) rfl)) rfl, lw_gm (tb2 (List.mem_of_getElem? (i := 73) rfl)) rfl, nX3, lw_gm (tb2 (List.mem_of_getElem? (i := 74) rfl)) rfl⟩, rfl, by decide +kernel, by decide +kernel, by decide +kernel⟩
theorem hX3_takeBack : Mth yX3_takeBack RX3 cX3_takeBack 3 (some .int) 1 := ⟨⟨lw_gm (tb3 (List.mem_of_getElem? (i := 137) rfl)) rfl, lw_gm (tb3 (List.mem_of_getElem? (i := 138) rfl)) rfl, nX3, lw_gm (tb3 (List.mem_of_getElem? (i := 139) rfl)) rfl⟩, rfl, by decide +kernel, by decide +kernel, by decide +kernel⟩
theorem nX4 : Cond.initialized RX4 ∈ lw_g := lw_gm (tb1 (List.mem_of_getElem? (i := 6) rfl)) rfl
theorem hX4_cell : Mts yX4_cell cX4_cell 2 (some .int) 2 := ⟨⟨lw_gm (tb3 (List.mem_of_getElem? (i := 214) rfl)) rfl, nX4, lw_gm (tb3 (List.mem_of_getElem? (i := 215) rfl)) rfl⟩, by decide +kernel, by decide +kernel, by decide +kernel⟩
theorem hX4_enter : Mth yX4_enter RX4 cX4_enter 7 none 2 := ⟨⟨lw_gm (tb3 (List.mem_of_getElem? (i := 218) rfl)) rfl, lw_gm (tb0 (List.mem_of_getElem? (i := 25) rfl)) rfl, nX4, lw_gm (tb3 (List.mem_of_getElem? (i := 219) rfl)) rfl⟩, rfl, by decide +kernel, by decide +kernel, by decide +kernel⟩
theorem hX4_across : Mth yX4_across RX4 cX4_across 7 none 3 := ⟨⟨lw_gm (tb3 (List.mem_of_getElem? (i := 206) rfl)) rfl, lw_gm (tb3 (List.mem_of_getElem? (i := 207) rfl)) rfl, nX4, lw_gm (tb3 (List.mem_of_getElem? (i := 208) rfl)) rfl⟩, rfl, by decide +kernel, by decide +kernel, by decide +kernel⟩
theorem hX4_write : Mth yX4_write RX4 cX4_write 7 none 4 := ⟨⟨lw_gm (tb3 (List.mem_of_getElem? (i := 236) rfl)) rfl, lw_gm (tb0 (List.mem_of_getElem? (i := 27) rfl)) rfl, nX4, lw_gm (tb3 (List.mem_of_getElem? (i := 237) rfl)) rfl⟩, rfl, by decide +kernel, by decide +kernel, by decide +kernel⟩
theorem hX4_clear : Mth yX4_clear RX4 cX4_clear 3 none 2 := ⟨⟨lw_gm (tb4 (List.mem_of_getElem? (i := 4) rfl)) rfl, lw_gm (tb0 (List.mem_of_getElem? (i := 29) rfl)) rfl, nX4, lw_gm (tb4 (List.mem_of_getElem? (i := 5) rfl)) rfl⟩, rfl, by decide +kernel, by decide +kernel, by decide +kernel⟩
theorem hX4_goingOut : Mts yX4_goingOut cX4_goingOut 5 (some .int) 2 := ⟨⟨lw_gm (tb4 (List.mem_of_getElem? (i := 15) rfl)) rfl, nX4, lw_gm (tb4 (List.mem_of_getElem? (i := 16) rfl)) rfl⟩, by decide +kernel, by decide +kernel, by decide +kernel⟩
theorem hX4_isLess : Mts yX4_isLess cX4_isLess 4 (some .boolean) 2 := ⟨⟨lw_gm (tb4 (List.mem_of_getElem? (i := 18) rfl)) rfl, nX4, lw_gm (tb4 (List.mem_of_getElem? (i := 19) rfl)) rfl⟩, by decide +kernel, by decide +kernel, by decide +kernel⟩
theorem hX4_fewest : Mth yX4_fewest RX4 cX4_fewest 7 (some .int) 3 := ⟨⟨lw_gm (tb4 (List.mem_of_getElem? (i := 11) rfl)) rfl, lw_gm (tb4 (List.mem_of_getElem? (i := 12) rfl)) rfl, nX4, lw_gm (tb4 (List.mem_of_getElem? (i := 13) rfl)) rfl⟩, rfl, by decide +kernel, by decide +kernel, by decide +kernel⟩
theorem hX4_join : Mth yX4_join RX4 cX4_join 13 none 4 := ⟨⟨lw_gm (tb3 (List.mem_of_getElem? (i := 231) rfl)) rfl, lw_gm (tb0 (List.mem_of_getElem? (i := 26) rfl)) rfl, nX4, lw_gm (tb3 (List.mem_of_getElem? (i := 232) rfl)) rfl⟩, rfl, by decide +kernel, by decide +kernel, by decide +kernel⟩
theorem hX4_takeOut : Mth yX4_takeOut RX4 cX4_takeOut 11 none 1 := ⟨⟨lw_gm (tb4 (List.mem_of_getElem? (i := 0) rfl)) rfl, lw_gm (tb0 (List.mem_of_getElem? (i := 28) rfl)) rfl, nX4, lw_gm (tb4 (List.mem_of_getElem? (i := 1) rfl)) rfl⟩, rfl, by decide +kernel, by decide +kernel, by decide +kernel⟩
theorem hX4_reduce : Mth yX4_reduce RX4 cX4_reduce 6 none 3 := ⟨⟨lw_gm (tb3 (List.mem_of_getElem? (i := 226) rfl)) rfl, lw_gm (tb3 (List.mem_of_getElem? (i := 227) rfl)) rfl, nX4, lw_gm (tb3 (List.mem_of_getElem? (i := 228) rfl)) rfl⟩, rfl, by decide +kernel, by decide +kernel, by decide +kernel⟩
theorem nX5 : Cond.initialized RX5 ∈ lw_g := lw_gm (tb1 (List.mem_of_getElem? (i := 5) rfl)) rfl
theorem hX5_add : Mth yX5_add RX5 cX5_add 3 none 2 := ⟨⟨lw_gm (tb4 (List.mem_of_getElem? (i := 50) rfl)) rfl, lw_gm (tb0 (List.mem_of_getElem? (i := 32) rfl)) rfl, nX5, lw_gm (tb4 (List.mem_of_getElem? (i := 51) rfl)) rfl⟩, rfl, by decide +kernel, by decide +kernel, by decide +kernel⟩
theorem hX5_alike : Mth yX5_alike RX5 cX5_alike 5 (some .int) 1 := ⟨⟨lw_gm (tb4 (List.mem_of_getElem? (i := 44) rfl)) rfl, lw_gm (tb0 (List.mem_of_getElem? (i := 31) rfl)) rfl, nX5, lw_gm (tb4 (List.mem_of_getElem? (i := 45) rfl)) rfl⟩, rfl, by decide +kernel, by decide +kernel, by decide +kernel⟩
theorem hX5_look : Mth yX5_look RX5 cX5_look 5 none 2 := ⟨⟨lw_gm (tb4 (List.mem_of_getElem? (i := 65) rfl)) rfl, lw_gm (tb0 (List.mem_of_getElem? (i := 33) rfl)) rfl, nX5, lw_gm (tb4 (List.mem_of_getElem? (i := 66) rfl)) rfl⟩, rfl, by decide +kernel, by decide +kernel, by decide +kernel⟩
theorem hX5_same : Mts yX5_same cX5_same 3 (some .boolean) 2 := ⟨⟨lw_gm (tb4 (List.mem_of_getElem? (i := 68) rfl)) rfl, nX5, lw_gm (tb4 (List.mem_of_getElem? (i := 69) rfl)) rfl⟩, by decide +kernel, by decide +kernel, by decide +kernel⟩
theorem hX5_leaves : Mth yX5_leaves RX5 cX5_leaves 7 (some .int) 1 := ⟨⟨lw_gm (tb4 (List.mem_of_getElem? (i := 57) rfl)) rfl, lw_gm (tb4 (List.mem_of_getElem? (i := 58) rfl)) rfl, nX5, lw_gm (tb4 (List.mem_of_getElem? (i := 59) rfl)) rfl⟩, rfl, by decide +kernel, by decide +kernel, by decide +kernel⟩
theorem hX5_seekAt : Mth yX5_seekAt RX5 cX5_seekAt 7 none 3 := ⟨⟨lw_gm (tb4 (List.mem_of_getElem? (i := 37) rfl)) rfl, lw_gm (tb0 (List.mem_of_getElem? (i := 30) rfl)) rfl, nX5, lw_gm (tb4 (List.mem_of_getElem? (i := 38) rfl)) rfl⟩, rfl, by decide +kernel, by decide +kernel, by decide +kernel⟩
theorem hX5_seek : Mth yX5_seek RX5 cX5_seek 4 none 1 := ⟨⟨lw_gm (tb4 (List.mem_of_getElem? (i := 27) rfl)) rfl, lw_gm (tb4 (List.mem_of_getElem? (i := 28) rfl)) rfl, nX5, lw_gm (tb4 (List.mem_of_getElem? (i := 29) rfl)) rfl⟩, rfl, by decide +kernel, by decide +kernel, by decide +kernel⟩
theorem nX6 : Cond.initialized RX6 ∈ lw_g := lw_gm (tb1 (List.mem_of_getElem? (i := 4) rfl)) rfl
theorem hX6_isSo : Mth yX6_isSo RX6 cX6_isSo 7 (some .boolean) 2 := ⟨⟨lw_gm (tb3 (List.mem_of_getElem? (i := 71) rfl)) rfl, lw_gm (tb3 (List.mem_of_getElem? (i := 72) rfl)) rfl, nX6, lw_gm (tb3 (List.mem_of_getElem? (i := 73) rfl)) rfl⟩, rfl, by decide +kernel, by decide +kernel, by decide +kernel⟩
theorem hX6_askWatches : Mth yX6_askWatches RX6 cX6_askWatches 5 (some .int) 1 := ⟨⟨lw_gm (tb2 (List.mem_of_getElem? (i := 214) rfl)) rfl, lw_gm (tb0 (List.mem_of_getElem? (i := 6) rfl)) rfl, nX6, lw_gm (tb2 (List.mem_of_getElem? (i := 215) rfl)) rfl⟩, rfl, by decide +kernel, by decide +kernel, by decide +kernel⟩
theorem hX6_tripPumps : Mth yX6_tripPumps RX6 cX6_tripPumps 4 none 1 := ⟨⟨lw_gm (tb3 (List.mem_of_getElem? (i := 102) rfl)) rfl, lw_gm (tb0 (List.mem_of_getElem? (i := 22) rfl)) rfl, nX6, lw_gm (tb3 (List.mem_of_getElem? (i := 103) rfl)) rfl⟩, rfl, by decide +kernel, by decide +kernel, by decide +kernel⟩
theorem hX6_writeLog : Mth yX6_writeLog RX6 cX6_writeLog 3 none 1 := ⟨⟨lw_gm (tb3 (List.mem_of_getElem? (i := 106) rfl)) rfl, lw_gm (tb0 (List.mem_of_getElem? (i := 23) rfl)) rfl, nX6, lw_gm (tb3 (List.mem_of_getElem? (i := 107) rfl)) rfl⟩, rfl, by decide +kernel, by decide +kernel, by decide +kernel⟩
theorem hX6_step : Mth yX6_step RX6 cX6_step 3 (some .int) 1 := ⟨⟨lw_gm (tb2 (List.mem_of_getElem? (i := 209) rfl)) rfl, lw_gm (tb2 (List.mem_of_getElem? (i := 210) rfl)) rfl, nX6, lw_gm (tb2 (List.mem_of_getElem? (i := 211) rfl)) rfl⟩, rfl, by decide +kernel, by decide +kernel, by decide +kernel⟩
theorem nX7 : Cond.initialized RX7 ∈ lw_g := lw_gm (tb1 (List.mem_of_getElem? (i := 1) rfl)) rfl
theorem hX7_accept : Mth yX7_accept RX7 cX7_accept 2 none 1 := ⟨⟨lw_gm (tb2 (List.mem_of_getElem? (i := 69) rfl)) rfl, lw_gm (tb0 (List.mem_of_getElem? (i := 1) rfl)) rfl, nX7, lw_gm (tb2 (List.mem_of_getElem? (i := 70) rfl)) rfl⟩, rfl, by decide +kernel, by decide +kernel, by decide +kernel⟩
theorem hX7_within : Mts yX7_within cX7_within 3 (some .boolean) 3 := ⟨⟨lw_gm (tb2 (List.mem_of_getElem? (i := 61) rfl)) rfl, nX7, lw_gm (tb2 (List.mem_of_getElem? (i := 62) rfl)) rfl⟩, by decide +kernel, by decide +kernel, by decide +kernel⟩
theorem hX7_arePieces : Mts yX7_arePieces cX7_arePieces 3 (some .boolean) 3 := ⟨⟨lw_gm (tb2 (List.mem_of_getElem? (i := 94) rfl)) rfl, nX7, lw_gm (tb2 (List.mem_of_getElem? (i := 95) rfl)) rfl⟩, by decide +kernel, by decide +kernel, by decide +kernel⟩
theorem hX7_isChamber : Mth yX7_isChamber RX7 cX7_isChamber 2 (some .boolean) 1 := ⟨⟨lw_gm (tb2 (List.mem_of_getElem? (i := 98) rfl)) rfl, lw_gm (tb0 (List.mem_of_getElem? (i := 2) rfl)) rfl, nX7, lw_gm (tb2 (List.mem_of_getElem? (i := 99) rfl)) rfl⟩, rfl, by decide +kernel, by decide +kernel, by decide +kernel⟩
theorem hX7_areTwoChambers : Mth yX7_areTwoChambers RX7 cX7_areTwoChambers 3 (some .boolean) 2 := ⟨⟨lw_gm (tb3 (List.mem_of_getElem? (i := 198) rfl)) rfl, lw_gm (tb0 (List.mem_of_getElem? (i := 24) rfl)) rfl, nX7, lw_gm (tb3 (List.mem_of_getElem? (i := 199) rfl)) rfl⟩, rfl, by decide +kernel, by decide +kernel, by decide +kernel⟩
theorem hX7_refuse : Mth yX7_refuse RX7 cX7_refuse 2 (some .int) 1 := ⟨⟨lw_gm (tb2 (List.mem_of_getElem? (i := 65) rfl)) rfl, lw_gm (tb0 (List.mem_of_getElem? (i := 0) rfl)) rfl, nX7, lw_gm (tb2 (List.mem_of_getElem? (i := 66) rfl)) rfl⟩, rfl, by decide +kernel, by decide +kernel, by decide +kernel⟩
theorem hX7_back : Mth yX7_back RX7 cX7_back 2 (some .int) 1 := ⟨⟨lw_gm (tb3 (List.mem_of_getElem? (i := 146) rfl)) rfl, lw_gm (tb3 (List.mem_of_getElem? (i := 147) rfl)) rfl, nX7, lw_gm (tb3 (List.mem_of_getElem? (i := 148) rfl)) rfl⟩, rfl, by decide +kernel, by decide +kernel, by decide +kernel⟩
theorem hX7_bears : Mth yX7_bears RX7 cX7_bears 4 (some .int) 2 := ⟨⟨lw_gm (tb4 (List.mem_of_getElem? (i := 99) rfl)) rfl, lw_gm (tb4 (List.mem_of_getElem? (i := 100) rfl)) rfl, nX7, lw_gm (tb4 (List.mem_of_getElem? (i := 101) rfl)) rfl⟩, rfl, by decide +kernel, by decide +kernel, by decide +kernel⟩
theorem hX7_between : Mth yX7_between RX7 cX7_between 4 (some .long) 3 := ⟨⟨lw_gm (tb3 (List.mem_of_getElem? (i := 193) rfl)) rfl, lw_gm (tb3 (List.mem_of_getElem? (i := 194) rfl)) rfl, nX7, lw_gm (tb3 (List.mem_of_getElem? (i := 195) rfl)) rfl⟩, rfl, by decide +kernel, by decide +kernel, by decide +kernel⟩
theorem hX7_chamber : Mth yX7_chamber RX7 cX7_chamber 3 (some .int) 2 := ⟨⟨lw_gm (tb2 (List.mem_of_getElem? (i := 55) rfl)) rfl, lw_gm (tb2 (List.mem_of_getElem? (i := 56) rfl)) rfl, nX7, lw_gm (tb2 (List.mem_of_getElem? (i := 57) rfl)) rfl⟩, rfl, by decide +kernel, by decide +kernel, by decide +kernel⟩
theorem hX7_count : Mth yX7_count RX7 cX7_count 2 (some .int) 1 := ⟨⟨lw_gm (tb4 (List.mem_of_getElem? (i := 160) rfl)) rfl, lw_gm (tb4 (List.mem_of_getElem? (i := 161) rfl)) rfl, nX7, lw_gm (tb4 (List.mem_of_getElem? (i := 162) rfl)) rfl⟩, rfl, by decide +kernel, by decide +kernel, by decide +kernel⟩
theorem hX7_curveThen : Mts yX7_curveThen cX7_curveThen 4 (some .int) 4 := ⟨⟨lw_gm (tb2 (List.mem_of_getElem? (i := 144) rfl)) rfl, nX7, lw_gm (tb2 (List.mem_of_getElem? (i := 145) rfl)) rfl⟩, by decide +kernel, by decide +kernel, by decide +kernel⟩
theorem hX7_isCurveNumber : Mts yX7_isCurveNumber cX7_isCurveNumber 2 (some .boolean) 2 := ⟨⟨lw_gm (tb2 (List.mem_of_getElem? (i := 137) rfl)) rfl, nX7, lw_gm (tb2 (List.mem_of_getElem? (i := 138) rfl)) rfl⟩, by decide +kernel, by decide +kernel, by decide +kernel⟩
theorem hX7_isPump : Mth yX7_isPump RX7 cX7_isPump 2 (some .boolean) 1 := ⟨⟨lw_gm (tb2 (List.mem_of_getElem? (i := 141) rfl)) rfl, lw_gm (tb0 (List.mem_of_getElem? (i := 3) rfl)) rfl, nX7, lw_gm (tb2 (List.mem_of_getElem? (i := 142) rfl)) rfl⟩, rfl, by decide +kernel, by decide +kernel, by decide +kernel⟩
theorem hX7_swap : Mts yX7_swap cX7_swap 4 (some .int) 3 := ⟨⟨lw_gm (tb2 (List.mem_of_getElem? (i := 149) rfl)) rfl, nX7, lw_gm (tb2 (List.mem_of_getElem? (i := 150) rfl)) rfl⟩, by decide +kernel, by decide +kernel, by decide +kernel⟩
theorem hX7_curve : Mth yX7_curve RX7 cX7_curve 6 (some .int) 3 := ⟨⟨lw_gm (tb2 (List.mem_of_getElem? (i := 133) rfl)) rfl, lw_gm (tb2 (List.mem_of_getElem? (i := 134) rfl)) rfl, nX7, lw_gm (tb2 (List.mem_of_getElem? (i := 135) rfl)) rfl⟩, rfl, by decide +kernel, by decide +kernel, by decide +kernel⟩
theorem hX7_drawn : Mth yX7_drawn RX7 cX7_drawn 6 (some .long) 2 := ⟨⟨lw_gm (tb3 (List.mem_of_getElem? (i := 181) rfl)) rfl, lw_gm (tb3 (List.mem_of_getElem? (i := 182) rfl)) rfl, nX7, lw_gm (tb3 (List.mem_of_getElem? (i := 183) rfl)) rfl⟩, rfl, by decide +kernel, by decide +kernel, by decide +kernel⟩
theorem hX7_isWatch : Mth yX7_isWatch RX7 cX7_isWatch 2 (some .boolean) 1 := ⟨⟨lw_gm (tb2 (List.mem_of_getElem? (i := 198) rfl)) rfl, lw_gm (tb0 (List.mem_of_getElem? (i := 5) rfl)) rfl, nX7, lw_gm (tb2 (List.mem_of_getElem? (i := 199) rfl)) rfl⟩, rfl, by decide +kernel, by decide +kernel, by decide +kernel⟩
theorem hX7_drop : Mth yX7_drop RX7 cX7_drop 2 (some .int) 1 := ⟨⟨lw_gm (tb2 (List.mem_of_getElem? (i := 193) rfl)) rfl, lw_gm (tb2 (List.mem_of_getElem? (i := 194) rfl)) rfl, nX7, lw_gm (tb2 (List.mem_of_getElem? (i := 195) rfl)) rfl⟩, rfl, by decide +kernel, by decide +kernel, by decide +kernel⟩
theorem hX7_fed : Mth yX7_fed RX7 cX7_fed 4 (some .int) 2 := ⟨⟨lw_gm (tb4 (List.mem_of_getElem? (i := 95) rfl)) rfl, lw_gm (tb4 (List.mem_of_getElem? (i := 96) rfl)) rfl, nX7, lw_gm (tb4 (List.mem_of_getElem? (i := 97) rfl)) rfl⟩, rfl, by decide +kernel, by decide +kernel, by decide +kernel⟩
theorem hX7_isTube : Mth yX7_isTube RX7 cX7_isTube 2 (some .boolean) 1 := ⟨⟨lw_gm (tb2 (List.mem_of_getElem? (i := 161) rfl)) rfl, lw_gm (tb0 (List.mem_of_getElem? (i := 4) rfl)) rfl, nX7, lw_gm (tb2 (List.mem_of_getElem? (i := 162) rfl)) rfl⟩, rfl, by decide +kernel, by decide +kernel, by decide +kernel⟩
theorem hX7_flow : Mth yX7_flow RX7 cX7_flow 6 (some .long) 2 := ⟨⟨lw_gm (tb3 (List.mem_of_getElem? (i := 176) rfl)) rfl, lw_gm (tb3 (List.mem_of_getElem? (i := 177) rfl)) rfl, nX7, lw_gm (tb3 (List.mem_of_getElem? (i := 178) rfl)) rfl⟩, rfl, by decide +kernel, by decide +kernel, by decide +kernel⟩
theorem hX7_helped : Mth yX7_helped RX7 cX7_helped 4 (some .int) 3 := ⟨⟨lw_gm (tb4 (List.mem_of_getElem? (i := 124) rfl)) rfl, lw_gm (tb4 (List.mem_of_getElem? (i := 125) rfl)) rfl, nX7, lw_gm (tb4 (List.mem_of_getElem? (i := 126) rfl)) rfl⟩, rfl, by decide +kernel, by decide +kernel, by decide +kernel⟩
theorem hX7_hottest : Mth yX7_hottest RX7 cX7_hottest 4 (some .int) 1 := ⟨⟨lw_gm (tb4 (List.mem_of_getElem? (i := 86) rfl)) rfl, lw_gm (tb4 (List.mem_of_getElem? (i := 87) rfl)) rfl, nX7, lw_gm (tb4 (List.mem_of_getElem? (i := 88) rfl)) rfl⟩, rfl, by decide +kernel, by decide +kernel, by decide +kernel⟩
theorem hX7_image : Mth yX7_image RX7 cX7_image 2 (some .int) 1 := ⟨⟨lw_gm (tb3 (List.mem_of_getElem? (i := 141) rfl)) rfl, lw_gm (tb3 (List.mem_of_getElem? (i := 142) rfl)) rfl, nX7, lw_gm (tb3 (List.mem_of_getElem? (i := 143) rfl)) rfl⟩, rfl, by decide +kernel, by decide +kernel, by decide +kernel⟩
theorem hX7_inSeries : Mts yX7_inSeries cX7_inSeries 5 (some .int) 3 := ⟨⟨lw_gm (tb2 (List.mem_of_getElem? (i := 101) rfl)) rfl, nX7, lw_gm (tb2 (List.mem_of_getElem? (i := 102) rfl)) rfl⟩, by decide +kernel, by decide +kernel, by decide +kernel⟩
theorem hX7_leak : Mth yX7_leak RX7 cX7_leak 4 (some .int) 2 := ⟨⟨lw_gm (tb2 (List.mem_of_getElem? (i := 172) rfl)) rfl, lw_gm (tb2 (List.mem_of_getElem? (i := 173) rfl)) rfl, nX7, lw_gm (tb2 (List.mem_of_getElem? (i := 174) rfl)) rfl⟩, rfl, by decide +kernel, by decide +kernel, by decide +kernel⟩
theorem hX7_log : Mth yX7_log RX7 cX7_log 3 (some .int) 2 := ⟨⟨lw_gm (tb4 (List.mem_of_getElem? (i := 132) rfl)) rfl, lw_gm (tb4 (List.mem_of_getElem? (i := 133) rfl)) rfl, nX7, lw_gm (tb4 (List.mem_of_getElem? (i := 134) rfl)) rfl⟩, rfl, by decide +kernel, by decide +kernel, by decide +kernel⟩
theorem hX7_lookout : Mth yX7_lookout RX7 cX7_lookout 3 (some .int) 0 := ⟨⟨lw_gm (tb4 (List.mem_of_getElem? (i := 115) rfl)) rfl, lw_gm (tb4 (List.mem_of_getElem? (i := 116) rfl)) rfl, nX7, lw_gm (tb4 (List.mem_of_getElem? (i := 117) rfl)) rfl⟩, rfl, by decide +kernel, by decide +kernel, by decide +kernel⟩
theorem hX7_note : Mth yX7_note RX7 cX7_note 3 (some .int) 2 := ⟨⟨lw_gm (tb3 (List.mem_of_getElem? (i := 122) rfl)) rfl, lw_gm (tb3 (List.mem_of_getElem? (i := 123) rfl)) rfl, nX7, lw_gm (tb3 (List.mem_of_getElem? (i := 124) rfl)) rfl⟩, rfl, by decide +kernel, by decide +kernel, by decide +kernel⟩
theorem hX7_noteAll : Mth yX7_noteAll RX7 cX7_noteAll 2 (some .int) 0 := ⟨⟨lw_gm (tb3 (List.mem_of_getElem? (i := 126) rfl)) rfl, lw_gm (tb3 (List.mem_of_getElem? (i := 127) rfl)) rfl, nX7, lw_gm (tb3 (List.mem_of_getElem? (i := 128) rfl)) rfl⟩, rfl, by decide +kernel, by decide +kernel, by decide +kernel⟩
theorem hX7_ofChamber : Mth yX7_ofChamber RX7 cX7_ofChamber 3 (some .int) 2 := ⟨⟨lw_gm (tb4 (List.mem_of_getElem? (i := 142) rfl)) rfl, lw_gm (tb4 (List.mem_of_getElem? (i := 143) rfl)) rfl, nX7, lw_gm (tb4 (List.mem_of_getElem? (i := 144) rfl)) rfl⟩, rfl, by decide +kernel, by decide +kernel, by decide +kernel⟩
theorem hX7_ofPump : Mth yX7_ofPump RX7 cX7_ofPump 3 (some .int) 2 := ⟨⟨lw_gm (tb4 (List.mem_of_getElem? (i := 152) rfl)) rfl, lw_gm (tb4 (List.mem_of_getElem? (i := 153) rfl)) rfl, nX7, lw_gm (tb4 (List.mem_of_getElem? (i := 154) rfl)) rfl⟩, rfl, by decide +kernel, by decide +kernel, by decide +kernel⟩
theorem hX7_ofTube : Mth yX7_ofTube RX7 cX7_ofTube 3 (some .int) 2 := ⟨⟨lw_gm (tb4 (List.mem_of_getElem? (i := 148) rfl)) rfl, lw_gm (tb4 (List.mem_of_getElem? (i := 149) rfl)) rfl, nX7, lw_gm (tb4 (List.mem_of_getElem? (i := 150) rfl)) rfl⟩, rfl, by decide +kernel, by decide +kernel, by decide +kernel⟩
theorem hX7_ofWatch : Mth yX7_ofWatch RX7 cX7_ofWatch 3 (some .int) 2 := ⟨⟨lw_gm (tb4 (List.mem_of_getElem? (i := 156) rfl)) rfl, lw_gm (tb4 (List.mem_of_getElem? (i := 157) rfl)) rfl, nX7, lw_gm (tb4 (List.mem_of_getElem? (i := 158) rfl)) rfl⟩, rfl, by decide +kernel, by decide +kernel, by decide +kernel⟩
theorem hX7_parts : Mth yX7_parts RX7 cX7_parts 5 (some .int) 3 := ⟨⟨lw_gm (tb4 (List.mem_of_getElem? (i := 7) rfl)) rfl, lw_gm (tb4 (List.mem_of_getElem? (i := 8) rfl)) rfl, nX7, lw_gm (tb4 (List.mem_of_getElem? (i := 9) rfl)) rfl⟩, rfl, by decide +kernel, by decide +kernel, by decide +kernel⟩
theorem hX7_place : Mth yX7_place RX7 cX7_place 6 (some .int) 1 := ⟨⟨lw_gm (tb4 (List.mem_of_getElem? (i := 71) rfl)) rfl, lw_gm (tb4 (List.mem_of_getElem? (i := 72) rfl)) rfl, nX7, lw_gm (tb4 (List.mem_of_getElem? (i := 73) rfl)) rfl⟩, rfl, by decide +kernel, by decide +kernel, by decide +kernel⟩
theorem hX7_pressure : Mth yX7_pressure RX7 cX7_pressure 3 (some .long) 2 := ⟨⟨lw_gm (tb3 (List.mem_of_getElem? (i := 154) rfl)) rfl, lw_gm (tb3 (List.mem_of_getElem? (i := 155) rfl)) rfl, nX7, lw_gm (tb3 (List.mem_of_getElem? (i := 156) rfl)) rfl⟩, rfl, by decide +kernel, by decide +kernel, by decide +kernel⟩
theorem hX7_probe : Mth yX7_probe RX7 cX7_probe 6 (some .int) 1 := ⟨⟨lw_gm (tb4 (List.mem_of_getElem? (i := 53) rfl)) rfl, lw_gm (tb4 (List.mem_of_getElem? (i := 54) rfl)) rfl, nX7, lw_gm (tb4 (List.mem_of_getElem? (i := 55) rfl)) rfl⟩, rfl, by decide +kernel, by decide +kernel, by decide +kernel⟩
theorem hX7_pump : Mth yX7_pump RX7 cX7_pump 3 (some .int) 2 := ⟨⟨lw_gm (tb2 (List.mem_of_getElem? (i := 125) rfl)) rfl, lw_gm (tb2 (List.mem_of_getElem? (i := 126) rfl)) rfl, nX7, lw_gm (tb2 (List.mem_of_getElem? (i := 127) rfl)) rfl⟩, rfl, by decide +kernel, by decide +kernel, by decide +kernel⟩
theorem hX7_reading : Mth yX7_reading RX7 cX7_reading 2 (some .int) 1 := ⟨⟨lw_gm (tb3 (List.mem_of_getElem? (i := 172) rfl)) rfl, lw_gm (tb3 (List.mem_of_getElem? (i := 173) rfl)) rfl, nX7, lw_gm (tb3 (List.mem_of_getElem? (i := 174) rfl)) rfl⟩, rfl, by decide +kernel, by decide +kernel, by decide +kernel⟩
theorem hX7_reduced : Mth yX7_reduced RX7 cX7_reduced 4 (some .long) 3 := ⟨⟨lw_gm (tb3 (List.mem_of_getElem? (i := 222) rfl)) rfl, lw_gm (tb3 (List.mem_of_getElem? (i := 223) rfl)) rfl, nX7, lw_gm (tb3 (List.mem_of_getElem? (i := 224) rfl)) rfl⟩, rfl, by decide +kernel, by decide +kernel, by decide +kernel⟩
theorem hX7_run : Mth yX7_run RX7 cX7_run 2 (some .int) 1 := ⟨⟨lw_gm (tb2 (List.mem_of_getElem? (i := 168) rfl)) rfl, lw_gm (tb2 (List.mem_of_getElem? (i := 169) rfl)) rfl, nX7, lw_gm (tb2 (List.mem_of_getElem? (i := 170) rfl)) rfl⟩, rfl, by decide +kernel, by decide +kernel, by decide +kernel⟩
theorem hX7_set : Mth yX7_set RX7 cX7_set 4 (some .int) 3 := ⟨⟨lw_gm (tb2 (List.mem_of_getElem? (i := 152) rfl)) rfl, lw_gm (tb2 (List.mem_of_getElem? (i := 153) rfl)) rfl, nX7, lw_gm (tb2 (List.mem_of_getElem? (i := 154) rfl)) rfl⟩, rfl, by decide +kernel, by decide +kernel, by decide +kernel⟩
theorem hX7_stage : Mth yX7_stage RX7 cX7_stage 2 (some .int) 1 := ⟨⟨lw_gm (tb3 (List.mem_of_getElem? (i := 189) rfl)) rfl, lw_gm (tb3 (List.mem_of_getElem? (i := 190) rfl)) rfl, nX7, lw_gm (tb3 (List.mem_of_getElem? (i := 191) rfl)) rfl⟩, rfl, by decide +kernel, by decide +kernel, by decide +kernel⟩
theorem hX7_status : Mth yX7_status RX7 cX7_status 1 (some .int) 0 := ⟨⟨lw_gm (tb4 (List.mem_of_getElem? (i := 174) rfl)) rfl, lw_gm (tb4 (List.mem_of_getElem? (i := 175) rfl)) rfl, nX7, lw_gm (tb4 (List.mem_of_getElem? (i := 176) rfl)) rfl⟩, rfl, by decide +kernel, by decide +kernel, by decide +kernel⟩
theorem hX7_steps : Mth yX7_steps RX7 cX7_steps 4 (some .int) 1 := ⟨⟨lw_gm (tb2 (List.mem_of_getElem? (i := 205) rfl)) rfl, lw_gm (tb2 (List.mem_of_getElem? (i := 206) rfl)) rfl, nX7, lw_gm (tb2 (List.mem_of_getElem? (i := 207) rfl)) rfl⟩, rfl, by decide +kernel, by decide +kernel, by decide +kernel⟩
theorem hX7_suspects : Mth yX7_suspects RX7 cX7_suspects 2 (some .int) 1 := ⟨⟨lw_gm (tb4 (List.mem_of_getElem? (i := 23) rfl)) rfl, lw_gm (tb4 (List.mem_of_getElem? (i := 24) rfl)) rfl, nX7, lw_gm (tb4 (List.mem_of_getElem? (i := 25) rfl)) rfl⟩, rfl, by decide +kernel, by decide +kernel, by decide +kernel⟩
theorem hX7_tried : Mth yX7_tried RX7 cX7_tried 4 (some .int) 3 := ⟨⟨lw_gm (tb4 (List.mem_of_getElem? (i := 120) rfl)) rfl, lw_gm (tb4 (List.mem_of_getElem? (i := 121) rfl)) rfl, nX7, lw_gm (tb4 (List.mem_of_getElem? (i := 122) rfl)) rfl⟩, rfl, by decide +kernel, by decide +kernel, by decide +kernel⟩
theorem hX7_trip : Mth yX7_trip RX7 cX7_trip 3 (some .int) 1 := ⟨⟨lw_gm (tb4 (List.mem_of_getElem? (i := 107) rfl)) rfl, lw_gm (tb4 (List.mem_of_getElem? (i := 108) rfl)) rfl, nX7, lw_gm (tb4 (List.mem_of_getElem? (i := 109) rfl)) rfl⟩, rfl, by decide +kernel, by decide +kernel, by decide +kernel⟩
theorem hX7_tube : Mth yX7_tube RX7 cX7_tube 7 (some .int) 5 := ⟨⟨lw_gm (tb2 (List.mem_of_getElem? (i := 90) rfl)) rfl, lw_gm (tb2 (List.mem_of_getElem? (i := 91) rfl)) rfl, nX7, lw_gm (tb2 (List.mem_of_getElem? (i := 92) rfl)) rfl⟩, rfl, by decide +kernel, by decide +kernel, by decide +kernel⟩
theorem hX7_turn : Mth yX7_turn RX7 cX7_turn 2 (some .int) 1 := ⟨⟨lw_gm (tb2 (List.mem_of_getElem? (i := 156) rfl)) rfl, lw_gm (tb2 (List.mem_of_getElem? (i := 157) rfl)) rfl, nX7, lw_gm (tb2 (List.mem_of_getElem? (i := 158) rfl)) rfl⟩, rfl, by decide +kernel, by decide +kernel, by decide +kernel⟩
theorem hX7_undo : Mth yX7_undo RX7 cX7_undo 2 (some .int) 0 := ⟨⟨lw_gm (tb3 (List.mem_of_getElem? (i := 133) rfl)) rfl, lw_gm (tb3 (List.mem_of_getElem? (i := 134) rfl)) rfl, nX7, lw_gm (tb3 (List.mem_of_getElem? (i := 135) rfl)) rfl⟩, rfl, by decide +kernel, by decide +kernel, by decide +kernel⟩
theorem hX7_until : Mth yX7_until RX7 cX7_until 3 (some .int) 1 := ⟨⟨lw_gm (tb4 (List.mem_of_getElem? (i := 128) rfl)) rfl, lw_gm (tb4 (List.mem_of_getElem? (i := 129) rfl)) rfl, nX7, lw_gm (tb4 (List.mem_of_getElem? (i := 130) rfl)) rfl⟩, rfl, by decide +kernel, by decide +kernel, by decide +kernel⟩
theorem hX7_valve : Mth yX7_valve RX7 cX7_valve 6 (some .int) 1 := ⟨⟨lw_gm (tb4 (List.mem_of_getElem? (i := 103) rfl)) rfl, lw_gm (tb4 (List.mem_of_getElem? (i := 104) rfl)) rfl, nX7, lw_gm (tb4 (List.mem_of_getElem? (i := 105) rfl)) rfl⟩, rfl, by decide +kernel, by decide +kernel, by decide +kernel⟩
theorem hX7_watch : Mth yX7_watch RX7 cX7_watch 6 (some .int) 5 := ⟨⟨lw_gm (tb2 (List.mem_of_getElem? (i := 184) rfl)) rfl, lw_gm (tb2 (List.mem_of_getElem? (i := 185) rfl)) rfl, nX7, lw_gm (tb2 (List.mem_of_getElem? (i := 186) rfl)) rfl⟩, rfl, by decide +kernel, by decide +kernel, by decide +kernel⟩
theorem nX8 : Cond.initialized RX8 ∈ lw_g := lw_gm (tb1 (List.mem_of_getElem? (i := 8) rfl)) rfl
theorem hX8_becomes : Mth yX8_becomes RX8 cX8_becomes 4 (some .boolean) 2 := ⟨⟨lw_gm (tb6 (List.mem_of_getElem? (i := 29) rfl)) rfl, lw_gm (tb0 (List.mem_of_getElem? (i := 66) rfl)) rfl, nX8, lw_gm (tb6 (List.mem_of_getElem? (i := 30) rfl)) rfl⟩, rfl, by decide +kernel, by decide +kernel, by decide +kernel⟩
theorem hX8_chamberAt : Mts yX8_chamberAt cX8_chamberAt 1 (some .int) 1 := ⟨⟨lw_gm (tb5 (List.mem_of_getElem? (i := 86) rfl)) rfl, nX8, lw_gm (tb5 (List.mem_of_getElem? (i := 87) rfl)) rfl⟩, by decide +kernel, by decide +kernel, by decide +kernel⟩
theorem hX8_in : Mts yX8_in cX8_in 6 (some .boolean) 3 := ⟨⟨lw_gm (tb5 (List.mem_of_getElem? (i := 69) rfl)) rfl, nX8, lw_gm (tb5 (List.mem_of_getElem? (i := 70) rfl)) rfl⟩, by decide +kernel, by decide +kernel, by decide +kernel⟩
theorem hX8_isChamber : Mth yX8_isChamber RX8 cX8_isChamber 2 (some .boolean) 1 := ⟨⟨lw_gm (tb5 (List.mem_of_getElem? (i := 95) rfl)) rfl, lw_gm (tb0 (List.mem_of_getElem? (i := 37) rfl)) rfl, nX8, lw_gm (tb5 (List.mem_of_getElem? (i := 96) rfl)) rfl⟩, rfl, by decide +kernel, by decide +kernel, by decide +kernel⟩
theorem hX8_isPump : Mth yX8_isPump RX8 cX8_isPump 2 (some .boolean) 1 := ⟨⟨lw_gm (tb5 (List.mem_of_getElem? (i := 131) rfl)) rfl, lw_gm (tb0 (List.mem_of_getElem? (i := 41) rfl)) rfl, nX8, lw_gm (tb5 (List.mem_of_getElem? (i := 132) rfl)) rfl⟩, rfl, by decide +kernel, by decide +kernel, by decide +kernel⟩
theorem hX8_isTube : Mth yX8_isTube RX8 cX8_isTube 2 (some .boolean) 1 := ⟨⟨lw_gm (tb5 (List.mem_of_getElem? (i := 145) rfl)) rfl, lw_gm (tb0 (List.mem_of_getElem? (i := 42) rfl)) rfl, nX8, lw_gm (tb5 (List.mem_of_getElem? (i := 146) rfl)) rfl⟩, rfl, by decide +kernel, by decide +kernel, by decide +kernel⟩
theorem hX8_pumpAt : Mts yX8_pumpAt cX8_pumpAt 1 (some .int) 1 := ⟨⟨lw_gm (tb5 (List.mem_of_getElem? (i := 112) rfl)) rfl, nX8, lw_gm (tb5 (List.mem_of_getElem? (i := 113) rfl)) rfl⟩, by decide +kernel, by decide +kernel, by decide +kernel⟩
theorem hX8_tubeAt : Mts yX8_tubeAt cX8_tubeAt 1 (some .int) 1 := ⟨⟨lw_gm (tb5 (List.mem_of_getElem? (i := 109) rfl)) rfl, nX8, lw_gm (tb5 (List.mem_of_getElem? (i := 110) rfl)) rfl⟩, by decide +kernel, by decide +kernel, by decide +kernel⟩
theorem hX8_acts : Mth yX8_acts RX8 cX8_acts 3 (some .boolean) 2 := ⟨⟨lw_gm (tb6 (List.mem_of_getElem? (i := 25) rfl)) rfl, lw_gm (tb0 (List.mem_of_getElem? (i := 65) rfl)) rfl, nX8, lw_gm (tb6 (List.mem_of_getElem? (i := 26) rfl)) rfl⟩, rfl, by decide +kernel, by decide +kernel, by decide +kernel⟩
theorem hX8_asItIs : Mth yX8_asItIs RX8 cX8_asItIs 1 none 0 := ⟨⟨lw_gm (tb5 (List.mem_of_getElem? (i := 195) rfl)) rfl, lw_gm (tb0 (List.mem_of_getElem? (i := 48) rfl)) rfl, nX8, lw_gm (tb5 (List.mem_of_getElem? (i := 196) rfl)) rfl⟩, rfl, by decide +kernel, by decide +kernel, by decide +kernel⟩
theorem hX8_runs : Mth yX8_runs RX8 cX8_runs 2 (some .boolean) 1 := ⟨⟨lw_gm (tb5 (List.mem_of_getElem? (i := 223) rfl)) rfl, lw_gm (tb0 (List.mem_of_getElem? (i := 55) rfl)) rfl, nX8, lw_gm (tb5 (List.mem_of_getElem? (i := 224) rfl)) rfl⟩, rfl, by decide +kernel, by decide +kernel, by decide +kernel⟩
theorem hX8_stageBy : Mth yX8_stageBy RX8 cX8_stageBy 4 (some .int) 1 := ⟨⟨lw_gm (tb6 (List.mem_of_getElem? (i := 11) rfl)) rfl, lw_gm (tb0 (List.mem_of_getElem? (i := 62) rfl)) rfl, nX8, lw_gm (tb6 (List.mem_of_getElem? (i := 12) rfl)) rfl⟩, rfl, by decide +kernel, by decide +kernel, by decide +kernel⟩
theorem hX8_agrees : Mth yX8_agrees RX8 cX8_agrees 3 (some .boolean) 0 := ⟨⟨lw_gm (tb6 (List.mem_of_getElem? (i := 7) rfl)) rfl, lw_gm (tb0 (List.mem_of_getElem? (i := 61) rfl)) rfl, nX8, lw_gm (tb6 (List.mem_of_getElem? (i := 8) rfl)) rfl⟩, rfl, by decide +kernel, by decide +kernel, by decide +kernel⟩
theorem hX8_load : Mth yX8_load RX8 cX8_load 3 (some .int) 1 := ⟨⟨lw_gm (tb5 (List.mem_of_getElem? (i := 215) rfl)) rfl, lw_gm (tb0 (List.mem_of_getElem? (i := 53) rfl)) rfl, nX8, lw_gm (tb5 (List.mem_of_getElem? (i := 216) rfl)) rfl⟩, rfl, by decide +kernel, by decide +kernel, by decide +kernel⟩
theorem hX8_layComes : Mth yX8_layComes RX8 cX8_layComes 2 none 0 := ⟨⟨lw_gm (tb5 (List.mem_of_getElem? (i := 211) rfl)) rfl, lw_gm (tb0 (List.mem_of_getElem? (i := 52) rfl)) rfl, nX8, lw_gm (tb5 (List.mem_of_getElem? (i := 212) rfl)) rfl⟩, rfl, by decide +kernel, by decide +kernel, by decide +kernel⟩
theorem hX8_isOpen : Mth yX8_isOpen RX8 cX8_isOpen 2 (some .boolean) 1 := ⟨⟨lw_gm (tb5 (List.mem_of_getElem? (i := 207) rfl)) rfl, lw_gm (tb0 (List.mem_of_getElem? (i := 51) rfl)) rfl, nX8, lw_gm (tb5 (List.mem_of_getElem? (i := 208) rfl)) rfl⟩, rfl, by decide +kernel, by decide +kernel, by decide +kernel⟩
theorem hX8_layNets : Mth yX8_layNets RX8 cX8_layNets 6 none 0 := ⟨⟨lw_gm (tb5 (List.mem_of_getElem? (i := 203) rfl)) rfl, lw_gm (tb0 (List.mem_of_getElem? (i := 50) rfl)) rfl, nX8, lw_gm (tb5 (List.mem_of_getElem? (i := 204) rfl)) rfl⟩, rfl, by decide +kernel, by decide +kernel, by decide +kernel⟩
theorem hX8_nextStages : Mth yX8_nextStages RX8 cX8_nextStages 2 (some .boolean) 0 := ⟨⟨lw_gm (tb6 (List.mem_of_getElem? (i := 15) rfl)) rfl, lw_gm (tb0 (List.mem_of_getElem? (i := 63) rfl)) rfl, nX8, lw_gm (tb6 (List.mem_of_getElem? (i := 16) rfl)) rfl⟩, rfl, by decide +kernel, by decide +kernel, by decide +kernel⟩
theorem hX8_two : Mth yX8_two RX8 cX8_two 4 (some .long) 3 := ⟨⟨lw_gm (tb6 (List.mem_of_getElem? (i := 3) rfl)) rfl, lw_gm (tb0 (List.mem_of_getElem? (i := 60) rfl)) rfl, nX8, lw_gm (tb6 (List.mem_of_getElem? (i := 4) rfl)) rfl⟩, rfl, by decide +kernel, by decide +kernel, by decide +kernel⟩
theorem hX8_four : Mth yX8_four RX8 cX8_four 1 (some .long) 0 := ⟨⟨lw_gm (tb5 (List.mem_of_getElem? (i := 239) rfl)) rfl, lw_gm (tb0 (List.mem_of_getElem? (i := 59) rfl)) rfl, nX8, lw_gm (tb6 (List.mem_of_getElem? (i := 0) rfl)) rfl⟩, rfl, by decide +kernel, by decide +kernel, by decide +kernel⟩
theorem hX8_layCofactors : Mth yX8_layCofactors RX8 cX8_layCofactors 5 none 0 := ⟨⟨lw_gm (tb5 (List.mem_of_getElem? (i := 235) rfl)) rfl, lw_gm (tb0 (List.mem_of_getElem? (i := 58) rfl)) rfl, nX8, lw_gm (tb5 (List.mem_of_getElem? (i := 236) rfl)) rfl⟩, rfl, by decide +kernel, by decide +kernel, by decide +kernel⟩
theorem hX8_layTubes : Mth yX8_layTubes RX8 cX8_layTubes 5 none 0 := ⟨⟨lw_gm (tb5 (List.mem_of_getElem? (i := 227) rfl)) rfl, lw_gm (tb0 (List.mem_of_getElem? (i := 56) rfl)) rfl, nX8, lw_gm (tb5 (List.mem_of_getElem? (i := 228) rfl)) rfl⟩, rfl, by decide +kernel, by decide +kernel, by decide +kernel⟩
theorem hX8_unit : Mth yX8_unit RX8 cX8_unit 3 none 1 := ⟨⟨lw_gm (tb5 (List.mem_of_getElem? (i := 231) rfl)) rfl, lw_gm (tb0 (List.mem_of_getElem? (i := 57) rfl)) rfl, nX8, lw_gm (tb5 (List.mem_of_getElem? (i := 232) rfl)) rfl⟩, rfl, by decide +kernel, by decide +kernel, by decide +kernel⟩
theorem hX8_solve : Mth yX8_solve RX8 cX8_solve 5 none 0 := ⟨⟨lw_gm (tb5 (List.mem_of_getElem? (i := 219) rfl)) rfl, lw_gm (tb0 (List.mem_of_getElem? (i := 54) rfl)) rfl, nX8, lw_gm (tb5 (List.mem_of_getElem? (i := 220) rfl)) rfl⟩, rfl, by decide +kernel, by decide +kernel, by decide +kernel⟩
theorem hX8_reckon : Mth yX8_reckon RX8 cX8_reckon 4 (some .boolean) 1 := ⟨⟨lw_gm (tb5 (List.mem_of_getElem? (i := 199) rfl)) rfl, lw_gm (tb0 (List.mem_of_getElem? (i := 49) rfl)) rfl, nX8, lw_gm (tb5 (List.mem_of_getElem? (i := 200) rfl)) rfl⟩, rfl, by decide +kernel, by decide +kernel, by decide +kernel⟩
theorem hX8_agreeing : Mth yX8_agreeing RX8 cX8_agreeing 1 (some .int) 0 := ⟨⟨lw_gm (tb7 (List.mem_of_getElem? (i := 16) rfl)) rfl, lw_gm (tb0 (List.mem_of_getElem? (i := 91) rfl)) rfl, nX8, lw_gm (tb7 (List.mem_of_getElem? (i := 17) rfl)) rfl⟩, rfl, by decide +kernel, by decide +kernel, by decide +kernel⟩
theorem hX8_areAlike : Mth yX8_areAlike RX8 cX8_areAlike 5 (some .boolean) 2 := ⟨⟨lw_gm (tb6 (List.mem_of_getElem? (i := 139) rfl)) rfl, lw_gm (tb0 (List.mem_of_getElem? (i := 80) rfl)) rfl, nX8, lw_gm (tb6 (List.mem_of_getElem? (i := 140) rfl)) rfl⟩, rfl, by decide +kernel, by decide +kernel, by decide +kernel⟩
theorem hX8_readingOf : Mth yX8_readingOf RX8 cX8_readingOf 4 (some .int) 1 := ⟨⟨lw_gm (tb6 (List.mem_of_getElem? (i := 19) rfl)) rfl, lw_gm (tb0 (List.mem_of_getElem? (i := 64) rfl)) rfl, nX8, lw_gm (tb6 (List.mem_of_getElem? (i := 20) rfl)) rfl⟩, rfl, by decide +kernel, by decide +kernel, by decide +kernel⟩
theorem hX8_areBelowReckoned : Mth yX8_areBelowReckoned RX8 cX8_areBelowReckoned 5 (some .boolean) 2 := ⟨⟨lw_gm (tb6 (List.mem_of_getElem? (i := 178) rfl)) rfl, lw_gm (tb0 (List.mem_of_getElem? (i := 86) rfl)) rfl, nX8, lw_gm (tb6 (List.mem_of_getElem? (i := 179) rfl)) rfl⟩, rfl, by decide +kernel, by decide +kernel, by decide +kernel⟩
theorem hX8_reckonNow : Mth yX8_reckonNow RX8 cX8_reckonNow 1 (some .boolean) 0 := ⟨⟨lw_gm (tb5 (List.mem_of_getElem? (i := 191) rfl)) rfl, lw_gm (tb0 (List.mem_of_getElem? (i := 47) rfl)) rfl, nX8, lw_gm (tb5 (List.mem_of_getElem? (i := 192) rfl)) rfl⟩, rfl, by decide +kernel, by decide +kernel, by decide +kernel⟩
theorem hX8_areBelow : Mth yX8_areBelow RX8 cX8_areBelow 2 (some .boolean) 1 := ⟨⟨lw_gm (tb6 (List.mem_of_getElem? (i := 174) rfl)) rfl, lw_gm (tb0 (List.mem_of_getElem? (i := 85) rfl)) rfl, nX8, lw_gm (tb6 (List.mem_of_getElem? (i := 175) rfl)) rfl⟩, rfl, by decide +kernel, by decide +kernel, by decide +kernel⟩
theorem hX8_areOpen : Mth yX8_areOpen RX8 cX8_areOpen 4 (some .boolean) 1 := ⟨⟨lw_gm (tb6 (List.mem_of_getElem? (i := 154) rfl)) rfl, lw_gm (tb0 (List.mem_of_getElem? (i := 82) rfl)) rfl, nX8, lw_gm (tb6 (List.mem_of_getElem? (i := 155) rfl)) rfl⟩, rfl, by decide +kernel, by decide +kernel, by decide +kernel⟩
theorem hX8_copy : Mts yX8_copy cX8_copy 5 none 4 := ⟨⟨lw_gm (tb5 (List.mem_of_getElem? (i := 58) rfl)) rfl, nX8, lw_gm (tb5 (List.mem_of_getElem? (i := 59) rfl)) rfl⟩, by decide +kernel, by decide +kernel, by decide +kernel⟩
theorem hX8_refuse : Mth yX8_refuse RX8 cX8_refuse 2 (some .int) 1 := ⟨⟨lw_gm (tb5 (List.mem_of_getElem? (i := 55) rfl)) rfl, lw_gm (tb0 (List.mem_of_getElem? (i := 34) rfl)) rfl, nX8, lw_gm (tb5 (List.mem_of_getElem? (i := 56) rfl)) rfl⟩, rfl, by decide +kernel, by decide +kernel, by decide +kernel⟩
theorem hX8_tell : Mth yX8_tell RX8 cX8_tell 2 (some .int) 1 := ⟨⟨lw_gm (tb5 (List.mem_of_getElem? (i := 62) rfl)) rfl, lw_gm (tb0 (List.mem_of_getElem? (i := 35) rfl)) rfl, nX8, lw_gm (tb5 (List.mem_of_getElem? (i := 63) rfl)) rfl⟩, rfl, by decide +kernel, by decide +kernel, by decide +kernel⟩
theorem hX8_back : Mth yX8_back RX8 cX8_back 2 (some .int) 1 := ⟨⟨lw_gm (tb5 (List.mem_of_getElem? (i := 72) rfl)) rfl, lw_gm (tb5 (List.mem_of_getElem? (i := 73) rfl)) rfl, nX8, lw_gm (tb5 (List.mem_of_getElem? (i := 74) rfl)) rfl⟩, rfl, by decide +kernel, by decide +kernel, by decide +kernel⟩
theorem hX8_isJoint : Mth yX8_isJoint RX8 cX8_isJoint 2 (some .boolean) 1 := ⟨⟨lw_gm (tb5 (List.mem_of_getElem? (i := 158) rfl)) rfl, lw_gm (tb0 (List.mem_of_getElem? (i := 43) rfl)) rfl, nX8, lw_gm (tb5 (List.mem_of_getElem? (i := 159) rfl)) rfl⟩, rfl, by decide +kernel, by decide +kernel, by decide +kernel⟩
theorem hX8_reckonLeak : Mth yX8_reckonLeak RX8 cX8_reckonLeak 3 (some .boolean) 2 := ⟨⟨lw_gm (tb6 (List.mem_of_getElem? (i := 119) rfl)) rfl, lw_gm (tb0 (List.mem_of_getElem? (i := 76) rfl)) rfl, nX8, lw_gm (tb6 (List.mem_of_getElem? (i := 120) rfl)) rfl⟩, rfl, by decide +kernel, by decide +kernel, by decide +kernel⟩
theorem hX8_bears : Mth yX8_bears RX8 cX8_bears 5 (some .int) 2 := ⟨⟨lw_gm (tb6 (List.mem_of_getElem? (i := 185) rfl)) rfl, lw_gm (tb6 (List.mem_of_getElem? (i := 186) rfl)) rfl, nX8, lw_gm (tb6 (List.mem_of_getElem? (i := 187) rfl)) rfl⟩, rfl, by decide +kernel, by decide +kernel, by decide +kernel⟩
theorem hX8_common : Mts yX8_common cX8_common 10 (some .long) 2 := ⟨⟨lw_gm (tb6 (List.mem_of_getElem? (i := 58) rfl)) rfl, nX8, lw_gm (tb6 (List.mem_of_getElem? (i := 59) rfl)) rfl⟩, by decide +kernel, by decide +kernel, by decide +kernel⟩
theorem hX8_become : Mth yX8_become RX8 cX8_become 8 none 3 := ⟨⟨lw_gm (tb6 (List.mem_of_getElem? (i := 95) rfl)) rfl, lw_gm (tb0 (List.mem_of_getElem? (i := 71) rfl)) rfl, nX8, lw_gm (tb6 (List.mem_of_getElem? (i := 96) rfl)) rfl⟩, rfl, by decide +kernel, by decide +kernel, by decide +kernel⟩
theorem hX8_lowest : Mts yX8_lowest cX8_lowest 5 (some .long) 3 := ⟨⟨lw_gm (tb6 (List.mem_of_getElem? (i := 55) rfl)) rfl, nX8, lw_gm (tb6 (List.mem_of_getElem? (i := 56) rfl)) rfl⟩, by decide +kernel, by decide +kernel, by decide +kernel⟩
theorem hX8_between : Mth yX8_between RX8 cX8_between 6 (some .long) 3 := ⟨⟨lw_gm (tb6 (List.mem_of_getElem? (i := 78) rfl)) rfl, lw_gm (tb6 (List.mem_of_getElem? (i := 79) rfl)) rfl, nX8, lw_gm (tb6 (List.mem_of_getElem? (i := 80) rfl)) rfl⟩, rfl, by decide +kernel, by decide +kernel, by decide +kernel⟩
theorem hX8_bits : Mts yX8_bits cX8_bits 3 (some .int) 1 := ⟨⟨lw_gm (tb6 (List.mem_of_getElem? (i := 150) rfl)) rfl, nX8, lw_gm (tb6 (List.mem_of_getElem? (i := 151) rfl)) rfl⟩, by decide +kernel, by decide +kernel, by decide +kernel⟩
theorem hX8_remember : Mth yX8_remember RX8 cX8_remember 3 none 1 := ⟨⟨lw_gm (tb5 (List.mem_of_getElem? (i := 83) rfl)) rfl, lw_gm (tb0 (List.mem_of_getElem? (i := 36) rfl)) rfl, nX8, lw_gm (tb5 (List.mem_of_getElem? (i := 84) rfl)) rfl⟩, rfl, by decide +kernel, by decide +kernel, by decide +kernel⟩
theorem hX8_chamber : Mth yX8_chamber RX8 cX8_chamber 6 (some .int) 2 := ⟨⟨lw_gm (tb5 (List.mem_of_getElem? (i := 76) rfl)) rfl, lw_gm (tb5 (List.mem_of_getElem? (i := 77) rfl)) rfl, nX8, lw_gm (tb5 (List.mem_of_getElem? (i := 78) rfl)) rfl⟩, rfl, by decide +kernel, by decide +kernel, by decide +kernel⟩
theorem hX8_netMany : Mth yX8_netMany RX8 cX8_netMany 3 (some .int) 0 := ⟨⟨lw_gm (tb7 (List.mem_of_getElem? (i := 12) rfl)) rfl, lw_gm (tb0 (List.mem_of_getElem? (i := 90) rfl)) rfl, nX8, lw_gm (tb7 (List.mem_of_getElem? (i := 13) rfl)) rfl⟩, rfl, by decide +kernel, by decide +kernel, by decide +kernel⟩
theorem hX8_notedOnes : Mth yX8_notedOnes RX8 cX8_notedOnes 3 (some .int) 0 := ⟨⟨lw_gm (tb6 (List.mem_of_getElem? (i := 115) rfl)) rfl, lw_gm (tb0 (List.mem_of_getElem? (i := 75) rfl)) rfl, nX8, lw_gm (tb6 (List.mem_of_getElem? (i := 116) rfl)) rfl⟩, rfl, by decide +kernel, by decide +kernel, by decide +kernel⟩
theorem hX8_count : Mth yX8_count RX8 cX8_count 2 (some .int) 1 := ⟨⟨lw_gm (tb7 (List.mem_of_getElem? (i := 7) rfl)) rfl, lw_gm (tb7 (List.mem_of_getElem? (i := 8) rfl)) rfl, nX8, lw_gm (tb7 (List.mem_of_getElem? (i := 9) rfl)) rfl⟩, rfl, by decide +kernel, by decide +kernel, by decide +kernel⟩
theorem hX8_greatestSpeed : Mth yX8_greatestSpeed RX8 cX8_greatestSpeed 5 (some .int) 1 := ⟨⟨lw_gm (tb5 (List.mem_of_getElem? (i := 116) rfl)) rfl, lw_gm (tb0 (List.mem_of_getElem? (i := 40) rfl)) rfl, nX8, lw_gm (tb5 (List.mem_of_getElem? (i := 117) rfl)) rfl⟩, rfl, by decide +kernel, by decide +kernel, by decide +kernel⟩
theorem hX8_isAt : Mth yX8_isAt RX8 cX8_isAt 3 (some .boolean) 2 := ⟨⟨lw_gm (tb5 (List.mem_of_getElem? (i := 106) rfl)) rfl, lw_gm (tb0 (List.mem_of_getElem? (i := 39) rfl)) rfl, nX8, lw_gm (tb5 (List.mem_of_getElem? (i := 107) rfl)) rfl⟩, rfl, by decide +kernel, by decide +kernel, by decide +kernel⟩
theorem hX8_weight : Mth yX8_weight RX8 cX8_weight 4 (some .int) 1 := ⟨⟨lw_gm (tb5 (List.mem_of_getElem? (i := 102) rfl)) rfl, lw_gm (tb0 (List.mem_of_getElem? (i := 38) rfl)) rfl, nX8, lw_gm (tb5 (List.mem_of_getElem? (i := 103) rfl)) rfl⟩, rfl, by decide +kernel, by decide +kernel, by decide +kernel⟩
theorem hX8_curve : Mth yX8_curve RX8 cX8_curve 9 (some .int) 3 := ⟨⟨lw_gm (tb5 (List.mem_of_getElem? (i := 124) rfl)) rfl, lw_gm (tb5 (List.mem_of_getElem? (i := 125) rfl)) rfl, nX8, lw_gm (tb5 (List.mem_of_getElem? (i := 126) rfl)) rfl⟩, rfl, by decide +kernel, by decide +kernel, by decide +kernel⟩
theorem hX8_drawn : Mth yX8_drawn RX8 cX8_drawn 4 (some .long) 2 := ⟨⟨lw_gm (tb6 (List.mem_of_getElem? (i := 70) rfl)) rfl, lw_gm (tb6 (List.mem_of_getElem? (i := 71) rfl)) rfl, nX8, lw_gm (tb6 (List.mem_of_getElem? (i := 72) rfl)) rfl⟩, rfl, by decide +kernel, by decide +kernel, by decide +kernel⟩
theorem hX8_isWatch : Mth yX8_isWatch RX8 cX8_isWatch 2 (some .boolean) 1 := ⟨⟨lw_gm (tb5 (List.mem_of_getElem? (i := 175) rfl)) rfl, lw_gm (tb0 (List.mem_of_getElem? (i := 44) rfl)) rfl, nX8, lw_gm (tb5 (List.mem_of_getElem? (i := 176) rfl)) rfl⟩, rfl, by decide +kernel, by decide +kernel, by decide +kernel⟩
theorem hX8_watchAt : Mts yX8_watchAt cX8_watchAt 1 (some .int) 1 := ⟨⟨lw_gm (tb5 (List.mem_of_getElem? (i := 167) rfl)) rfl, nX8, lw_gm (tb5 (List.mem_of_getElem? (i := 168) rfl)) rfl⟩, by decide +kernel, by decide +kernel, by decide +kernel⟩
theorem hX8_drop : Mth yX8_drop RX8 cX8_drop 3 (some .int) 1 := ⟨⟨lw_gm (tb5 (List.mem_of_getElem? (i := 170) rfl)) rfl, lw_gm (tb5 (List.mem_of_getElem? (i := 171) rfl)) rfl, nX8, lw_gm (tb5 (List.mem_of_getElem? (i := 172) rfl)) rfl⟩, rfl, by decide +kernel, by decide +kernel, by decide +kernel⟩
theorem hX8_fed : Mth yX8_fed RX8 cX8_fed 7 (some .int) 2 := ⟨⟨lw_gm (tb6 (List.mem_of_getElem? (i := 181) rfl)) rfl, lw_gm (tb6 (List.mem_of_getElem? (i := 182) rfl)) rfl, nX8, lw_gm (tb6 (List.mem_of_getElem? (i := 183) rfl)) rfl⟩, rfl, by decide +kernel, by decide +kernel, by decide +kernel⟩
theorem hX8_firstTripped : Mth yX8_firstTripped RX8 cX8_firstTripped 3 (some .int) 0 := ⟨⟨lw_gm (tb6 (List.mem_of_getElem? (i := 202) rfl)) rfl, lw_gm (tb0 (List.mem_of_getElem? (i := 88) rfl)) rfl, nX8, lw_gm (tb6 (List.mem_of_getElem? (i := 203) rfl)) rfl⟩, rfl, by decide +kernel, by decide +kernel, by decide +kernel⟩
theorem hX8_flow : Mth yX8_flow RX8 cX8_flow 5 (some .long) 2 := ⟨⟨lw_gm (tb6 (List.mem_of_getElem? (i := 65) rfl)) rfl, lw_gm (tb6 (List.mem_of_getElem? (i := 66) rfl)) rfl, nX8, lw_gm (tb6 (List.mem_of_getElem? (i := 67) rfl)) rfl⟩, rfl, by decide +kernel, by decide +kernel, by decide +kernel⟩
theorem hX8_greatestReading : Mth yX8_greatestReading RX8 cX8_greatestReading 4 (some .int) 0 := ⟨⟨lw_gm (tb6 (List.mem_of_getElem? (i := 166) rfl)) rfl, lw_gm (tb0 (List.mem_of_getElem? (i := 84) rfl)) rfl, nX8, lw_gm (tb6 (List.mem_of_getElem? (i := 167) rfl)) rfl⟩, rfl, by decide +kernel, by decide +kernel, by decide +kernel⟩
theorem hX8_hangs : Mth yX8_hangs RX8 cX8_hangs 9 (some .boolean) 3 := ⟨⟨lw_gm (tb6 (List.mem_of_getElem? (i := 147) rfl)) rfl, lw_gm (tb0 (List.mem_of_getElem? (i := 81) rfl)) rfl, nX8, lw_gm (tb6 (List.mem_of_getElem? (i := 148) rfl)) rfl⟩, rfl, by decide +kernel, by decide +kernel, by decide +kernel⟩
theorem hX8_reckonMore : Mth yX8_reckonMore RX8 cX8_reckonMore 3 (some .boolean) 2 := ⟨⟨lw_gm (tb6 (List.mem_of_getElem? (i := 162) rfl)) rfl, lw_gm (tb0 (List.mem_of_getElem? (i := 83) rfl)) rfl, nX8, lw_gm (tb6 (List.mem_of_getElem? (i := 163) rfl)) rfl⟩, rfl, by decide +kernel, by decide +kernel, by decide +kernel⟩
theorem hX8_helped : Mth yX8_helped RX8 cX8_helped 4 (some .int) 3 := ⟨⟨lw_gm (tb6 (List.mem_of_getElem? (i := 213) rfl)) rfl, lw_gm (tb6 (List.mem_of_getElem? (i := 214) rfl)) rfl, nX8, lw_gm (tb6 (List.mem_of_getElem? (i := 215) rfl)) rfl⟩, rfl, by decide +kernel, by decide +kernel, by decide +kernel⟩
theorem hX8_hottest : Mth yX8_hottest RX8 cX8_hottest 5 (some .int) 1 := ⟨⟨lw_gm (tb6 (List.mem_of_getElem? (i := 169) rfl)) rfl, lw_gm (tb6 (List.mem_of_getElem? (i := 170) rfl)) rfl, nX8, lw_gm (tb6 (List.mem_of_getElem? (i := 171) rfl)) rfl⟩, rfl, by decide +kernel, by decide +kernel, by decide +kernel⟩
theorem hX8_image : Mth yX8_image RX8 cX8_image 2 (some .int) 1 := ⟨⟨lw_gm (tb5 (List.mem_of_getElem? (i := 65) rfl)) rfl, lw_gm (tb5 (List.mem_of_getElem? (i := 66) rfl)) rfl, nX8, lw_gm (tb5 (List.mem_of_getElem? (i := 67) rfl)) rfl⟩, rfl, by decide +kernel, by decide +kernel, by decide +kernel⟩
theorem hX8_inSeries : Mts yX8_inSeries cX8_inSeries 6 (some .int) 3 := ⟨⟨lw_gm (tb5 (List.mem_of_getElem? (i := 98) rfl)) rfl, nX8, lw_gm (tb5 (List.mem_of_getElem? (i := 99) rfl)) rfl⟩, by decide +kernel, by decide +kernel, by decide +kernel⟩
theorem hX8_isSo : Mth yX8_isSo RX8 cX8_isSo 4 (some .boolean) 1 := ⟨⟨lw_gm (tb5 (List.mem_of_getElem? (i := 187) rfl)) rfl, lw_gm (tb0 (List.mem_of_getElem? (i := 46) rfl)) rfl, nX8, lw_gm (tb5 (List.mem_of_getElem? (i := 188) rfl)) rfl⟩, rfl, by decide +kernel, by decide +kernel, by decide +kernel⟩
theorem hX8_joinsSame : Mth yX8_joinsSame RX8 cX8_joinsSame 3 (some .boolean) 2 := ⟨⟨lw_gm (tb6 (List.mem_of_getElem? (i := 91) rfl)) rfl, lw_gm (tb0 (List.mem_of_getElem? (i := 70) rfl)) rfl, nX8, lw_gm (tb6 (List.mem_of_getElem? (i := 92) rfl)) rfl⟩, rfl, by decide +kernel, by decide +kernel, by decide +kernel⟩
theorem hX8_laySigns : Mth yX8_laySigns RX8 cX8_laySigns 5 none 1 := ⟨⟨lw_gm (tb6 (List.mem_of_getElem? (i := 135) rfl)) rfl, lw_gm (tb0 (List.mem_of_getElem? (i := 79) rfl)) rfl, nX8, lw_gm (tb6 (List.mem_of_getElem? (i := 136) rfl)) rfl⟩, rfl, by decide +kernel, by decide +kernel, by decide +kernel⟩
theorem hX8_leak : Mth yX8_leak RX8 cX8_leak 4 (some .int) 2 := ⟨⟨lw_gm (tb5 (List.mem_of_getElem? (i := 152) rfl)) rfl, lw_gm (tb5 (List.mem_of_getElem? (i := 153) rfl)) rfl, nX8, lw_gm (tb5 (List.mem_of_getElem? (i := 154) rfl)) rfl⟩, rfl, by decide +kernel, by decide +kernel, by decide +kernel⟩
theorem hX8_leaveOut : Mth yX8_leaveOut RX8 cX8_leaveOut 7 none 4 := ⟨⟨lw_gm (tb6 (List.mem_of_getElem? (i := 103) rfl)) rfl, lw_gm (tb0 (List.mem_of_getElem? (i := 73) rfl)) rfl, nX8, lw_gm (tb6 (List.mem_of_getElem? (i := 104) rfl)) rfl⟩, rfl, by decide +kernel, by decide +kernel, by decide +kernel⟩
theorem hX8_leaves : Mth yX8_leaves RX8 cX8_leaves 7 (some .int) 2 := ⟨⟨lw_gm (tb6 (List.mem_of_getElem? (i := 131) rfl)) rfl, lw_gm (tb0 (List.mem_of_getElem? (i := 78) rfl)) rfl, nX8, lw_gm (tb6 (List.mem_of_getElem? (i := 132) rfl)) rfl⟩, rfl, by decide +kernel, by decide +kernel, by decide +kernel⟩
theorem hX8_log : Mth yX8_log RX8 cX8_log 3 (some .int) 2 := ⟨⟨lw_gm (tb6 (List.mem_of_getElem? (i := 221) rfl)) rfl, lw_gm (tb6 (List.mem_of_getElem? (i := 222) rfl)) rfl, nX8, lw_gm (tb6 (List.mem_of_getElem? (i := 223) rfl)) rfl⟩, rfl, by decide +kernel, by decide +kernel, by decide +kernel⟩
theorem hX8_logs : Mth yX8_logs RX8 cX8_logs 3 none 0 := ⟨⟨lw_gm (tb6 (List.mem_of_getElem? (i := 37) rfl)) rfl, lw_gm (tb0 (List.mem_of_getElem? (i := 68) rfl)) rfl, nX8, lw_gm (tb6 (List.mem_of_getElem? (i := 38) rfl)) rfl⟩, rfl, by decide +kernel, by decide +kernel, by decide +kernel⟩
theorem hX8_lookout : Mth yX8_lookout RX8 cX8_lookout 3 (some .int) 0 := ⟨⟨lw_gm (tb6 (List.mem_of_getElem? (i := 205) rfl)) rfl, lw_gm (tb6 (List.mem_of_getElem? (i := 206) rfl)) rfl, nX8, lw_gm (tb6 (List.mem_of_getElem? (i := 207) rfl)) rfl⟩, rfl, by decide +kernel, by decide +kernel, by decide +kernel⟩
theorem hX8_makeParallel : Mth yX8_makeParallel RX8 cX8_makeParallel 3 (some .boolean) 0 := ⟨⟨lw_gm (tb6 (List.mem_of_getElem? (i := 87) rfl)) rfl, lw_gm (tb0 (List.mem_of_getElem? (i := 69) rfl)) rfl, nX8, lw_gm (tb6 (List.mem_of_getElem? (i := 88) rfl)) rfl⟩, rfl, by decide +kernel, by decide +kernel, by decide +kernel⟩
theorem hX8_makeSeries : Mth yX8_makeSeries RX8 cX8_makeSeries 8 (some .boolean) 2 := ⟨⟨lw_gm (tb6 (List.mem_of_getElem? (i := 99) rfl)) rfl, lw_gm (tb0 (List.mem_of_getElem? (i := 72) rfl)) rfl, nX8, lw_gm (tb6 (List.mem_of_getElem? (i := 100) rfl)) rfl⟩, rfl, by decide +kernel, by decide +kernel, by decide +kernel⟩
theorem hX8_matches : Mth yX8_matches RX8 cX8_matches 3 (some .int) 0 := ⟨⟨lw_gm (tb6 (List.mem_of_getElem? (i := 123) rfl)) rfl, lw_gm (tb0 (List.mem_of_getElem? (i := 77) rfl)) rfl, nX8, lw_gm (tb6 (List.mem_of_getElem? (i := 124) rfl)) rfl⟩, rfl, by decide +kernel, by decide +kernel, by decide +kernel⟩
theorem hX8_netBits : Mth yX8_netBits RX8 cX8_netBits 4 (some .int) 1 := ⟨⟨lw_gm (tb6 (List.mem_of_getElem? (i := 230) rfl)) rfl, lw_gm (tb0 (List.mem_of_getElem? (i := 89) rfl)) rfl, nX8, lw_gm (tb6 (List.mem_of_getElem? (i := 231) rfl)) rfl⟩, rfl, by decide +kernel, by decide +kernel, by decide +kernel⟩
theorem hX8_note : Mth yX8_note RX8 cX8_note 4 (some .int) 2 := ⟨⟨lw_gm (tb6 (List.mem_of_getElem? (i := 40) rfl)) rfl, lw_gm (tb6 (List.mem_of_getElem? (i := 41) rfl)) rfl, nX8, lw_gm (tb6 (List.mem_of_getElem? (i := 42) rfl)) rfl⟩, rfl, by decide +kernel, by decide +kernel, by decide +kernel⟩
theorem hX8_noteAll : Mth yX8_noteAll RX8 cX8_noteAll 2 (some .int) 0 := ⟨⟨lw_gm (tb6 (List.mem_of_getElem? (i := 45) rfl)) rfl, lw_gm (tb6 (List.mem_of_getElem? (i := 46) rfl)) rfl, nX8, lw_gm (tb6 (List.mem_of_getElem? (i := 47) rfl)) rfl⟩, rfl, by decide +kernel, by decide +kernel, by decide +kernel⟩
theorem hX8_ofChamber : Mth yX8_ofChamber RX8 cX8_ofChamber 4 (some .int) 2 := ⟨⟨lw_gm (tb6 (List.mem_of_getElem? (i := 225) rfl)) rfl, lw_gm (tb6 (List.mem_of_getElem? (i := 226) rfl)) rfl, nX8, lw_gm (tb6 (List.mem_of_getElem? (i := 227) rfl)) rfl⟩, rfl, by decide +kernel, by decide +kernel, by decide +kernel⟩
theorem hX8_ofPump : Mth yX8_ofPump RX8 cX8_ofPump 3 (some .int) 2 := ⟨⟨lw_gm (tb6 (List.mem_of_getElem? (i := 238) rfl)) rfl, lw_gm (tb6 (List.mem_of_getElem? (i := 239) rfl)) rfl, nX8, lw_gm (tb7 (List.mem_of_getElem? (i := 0) rfl)) rfl⟩, rfl, by decide +kernel, by decide +kernel, by decide +kernel⟩
theorem hX8_ofTube : Mth yX8_ofTube RX8 cX8_ofTube 3 (some .int) 2 := ⟨⟨lw_gm (tb6 (List.mem_of_getElem? (i := 233) rfl)) rfl, lw_gm (tb6 (List.mem_of_getElem? (i := 234) rfl)) rfl, nX8, lw_gm (tb6 (List.mem_of_getElem? (i := 235) rfl)) rfl⟩, rfl, by decide +kernel, by decide +kernel, by decide +kernel⟩
theorem hX8_ofWatch : Mth yX8_ofWatch RX8 cX8_ofWatch 3 (some .int) 2 := ⟨⟨lw_gm (tb7 (List.mem_of_getElem? (i := 3) rfl)) rfl, lw_gm (tb7 (List.mem_of_getElem? (i := 4) rfl)) rfl, nX8, lw_gm (tb7 (List.mem_of_getElem? (i := 5) rfl)) rfl⟩, rfl, by decide +kernel, by decide +kernel, by decide +kernel⟩
theorem hX8_parts : Mth yX8_parts RX8 cX8_parts 6 (some .int) 3 := ⟨⟨lw_gm (tb6 (List.mem_of_getElem? (i := 142) rfl)) rfl, lw_gm (tb6 (List.mem_of_getElem? (i := 143) rfl)) rfl, nX8, lw_gm (tb6 (List.mem_of_getElem? (i := 144) rfl)) rfl⟩, rfl, by decide +kernel, by decide +kernel, by decide +kernel⟩
theorem hX8_place : Mth yX8_place RX8 cX8_place 6 (some .int) 1 := ⟨⟨lw_gm (tb6 (List.mem_of_getElem? (i := 157) rfl)) rfl, lw_gm (tb6 (List.mem_of_getElem? (i := 158) rfl)) rfl, nX8, lw_gm (tb6 (List.mem_of_getElem? (i := 159) rfl)) rfl⟩, rfl, by decide +kernel, by decide +kernel, by decide +kernel⟩
theorem hX8_pressure : Mth yX8_pressure RX8 cX8_pressure 3 (some .long) 2 := ⟨⟨lw_gm (tb6 (List.mem_of_getElem? (i := 49) rfl)) rfl, lw_gm (tb6 (List.mem_of_getElem? (i := 50) rfl)) rfl, nX8, lw_gm (tb6 (List.mem_of_getElem? (i := 51) rfl)) rfl⟩, rfl, by decide +kernel, by decide +kernel, by decide +kernel⟩
theorem hX8_seek : Mth yX8_seek RX8 cX8_seek 12 (some .int) 1 := ⟨⟨lw_gm (tb6 (List.mem_of_getElem? (i := 111) rfl)) rfl, lw_gm (tb0 (List.mem_of_getElem? (i := 74) rfl)) rfl, nX8, lw_gm (tb6 (List.mem_of_getElem? (i := 112) rfl)) rfl⟩, rfl, by decide +kernel, by decide +kernel, by decide +kernel⟩
theorem hX8_probe : Mth yX8_probe RX8 cX8_probe 8 (some .int) 1 := ⟨⟨lw_gm (tb6 (List.mem_of_getElem? (i := 126) rfl)) rfl, lw_gm (tb6 (List.mem_of_getElem? (i := 127) rfl)) rfl, nX8, lw_gm (tb6 (List.mem_of_getElem? (i := 128) rfl)) rfl⟩, rfl, by decide +kernel, by decide +kernel, by decide +kernel⟩
theorem hX8_pump : Mth yX8_pump RX8 cX8_pump 6 (some .int) 2 := ⟨⟨lw_gm (tb5 (List.mem_of_getElem? (i := 119) rfl)) rfl, lw_gm (tb5 (List.mem_of_getElem? (i := 120) rfl)) rfl, nX8, lw_gm (tb5 (List.mem_of_getElem? (i := 121) rfl)) rfl⟩, rfl, by decide +kernel, by decide +kernel, by decide +kernel⟩
theorem hX8_reading : Mth yX8_reading RX8 cX8_reading 2 (some .int) 1 := ⟨⟨lw_gm (tb6 (List.mem_of_getElem? (i := 61) rfl)) rfl, lw_gm (tb6 (List.mem_of_getElem? (i := 62) rfl)) rfl, nX8, lw_gm (tb6 (List.mem_of_getElem? (i := 63) rfl)) rfl⟩, rfl, by decide +kernel, by decide +kernel, by decide +kernel⟩
theorem hX8_reduced : Mth yX8_reduced RX8 cX8_reduced 8 (some .long) 3 := ⟨⟨lw_gm (tb6 (List.mem_of_getElem? (i := 82) rfl)) rfl, lw_gm (tb6 (List.mem_of_getElem? (i := 83) rfl)) rfl, nX8, lw_gm (tb6 (List.mem_of_getElem? (i := 84) rfl)) rfl⟩, rfl, by decide +kernel, by decide +kernel, by decide +kernel⟩
theorem hX8_run : Mth yX8_run RX8 cX8_run 2 (some .int) 1 := ⟨⟨lw_gm (tb5 (List.mem_of_getElem? (i := 148) rfl)) rfl, lw_gm (tb5 (List.mem_of_getElem? (i := 149) rfl)) rfl, nX8, lw_gm (tb5 (List.mem_of_getElem? (i := 150) rfl)) rfl⟩, rfl, by decide +kernel, by decide +kernel, by decide +kernel⟩
theorem hX8_set : Mth yX8_set RX8 cX8_set 5 (some .int) 3 := ⟨⟨lw_gm (tb5 (List.mem_of_getElem? (i := 134) rfl)) rfl, lw_gm (tb5 (List.mem_of_getElem? (i := 135) rfl)) rfl, nX8, lw_gm (tb5 (List.mem_of_getElem? (i := 136) rfl)) rfl⟩, rfl, by decide +kernel, by decide +kernel, by decide +kernel⟩
theorem hX8_stage : Mth yX8_stage RX8 cX8_stage 2 (some .int) 1 := ⟨⟨lw_gm (tb6 (List.mem_of_getElem? (i := 74) rfl)) rfl, lw_gm (tb6 (List.mem_of_getElem? (i := 75) rfl)) rfl, nX8, lw_gm (tb6 (List.mem_of_getElem? (i := 76) rfl)) rfl⟩, rfl, by decide +kernel, by decide +kernel, by decide +kernel⟩
theorem hX8_status : Mth yX8_status RX8 cX8_status 1 (some .int) 0 := ⟨⟨lw_gm (tb7 (List.mem_of_getElem? (i := 19) rfl)) rfl, lw_gm (tb7 (List.mem_of_getElem? (i := 20) rfl)) rfl, nX8, lw_gm (tb7 (List.mem_of_getElem? (i := 21) rfl)) rfl⟩, rfl, by decide +kernel, by decide +kernel, by decide +kernel⟩
theorem hX8_trips : Mth yX8_trips RX8 cX8_trips 5 (some .int) 0 := ⟨⟨lw_gm (tb6 (List.mem_of_getElem? (i := 33) rfl)) rfl, lw_gm (tb0 (List.mem_of_getElem? (i := 67) rfl)) rfl, nX8, lw_gm (tb6 (List.mem_of_getElem? (i := 34) rfl)) rfl⟩, rfl, by decide +kernel, by decide +kernel, by decide +kernel⟩
theorem hX8_step : Mth yX8_step RX8 cX8_step 4 (some .int) 0 := ⟨⟨lw_gm (tb5 (List.mem_of_getElem? (i := 183) rfl)) rfl, lw_gm (tb0 (List.mem_of_getElem? (i := 45) rfl)) rfl, nX8, lw_gm (tb5 (List.mem_of_getElem? (i := 184) rfl)) rfl⟩, rfl, by decide +kernel, by decide +kernel, by decide +kernel⟩
theorem hX8_steps : Mth yX8_steps RX8 cX8_steps 4 (some .int) 1 := ⟨⟨lw_gm (tb5 (List.mem_of_getElem? (i := 178) rfl)) rfl, lw_gm (tb5 (List.mem_of_getElem? (i := 179) rfl)) rfl, nX8, lw_gm (tb5 (List.mem_of_getElem? (i := 180) rfl)) rfl⟩, rfl, by decide +kernel, by decide +kernel, by decide +kernel⟩
theorem hX8_suspects : Mth yX8_suspects RX8 cX8_suspects 2 (some .int) 1 := ⟨⟨lw_gm (tb6 (List.mem_of_getElem? (i := 106) rfl)) rfl, lw_gm (tb6 (List.mem_of_getElem? (i := 107) rfl)) rfl, nX8, lw_gm (tb6 (List.mem_of_getElem? (i := 108) rfl)) rfl⟩, rfl, by decide +kernel, by decide +kernel, by decide +kernel⟩
theorem hX8_tried : Mth yX8_tried RX8 cX8_tried 4 (some .int) 3 := ⟨⟨lw_gm (tb6 (List.mem_of_getElem? (i := 209) rfl)) rfl, lw_gm (tb6 (List.mem_of_getElem? (i := 210) rfl)) rfl, nX8, lw_gm (tb6 (List.mem_of_getElem? (i := 211) rfl)) rfl⟩, rfl, by decide +kernel, by decide +kernel, by decide +kernel⟩
theorem hX8_trippedOnes : Mth yX8_trippedOnes RX8 cX8_trippedOnes 3 (some .int) 0 := ⟨⟨lw_gm (tb6 (List.mem_of_getElem? (i := 198) rfl)) rfl, lw_gm (tb0 (List.mem_of_getElem? (i := 87) rfl)) rfl, nX8, lw_gm (tb6 (List.mem_of_getElem? (i := 199) rfl)) rfl⟩, rfl, by decide +kernel, by decide +kernel, by decide +kernel⟩
theorem hX8_trip : Mth yX8_trip RX8 cX8_trip 5 (some .int) 1 := ⟨⟨lw_gm (tb6 (List.mem_of_getElem? (i := 193) rfl)) rfl, lw_gm (tb6 (List.mem_of_getElem? (i := 194) rfl)) rfl, nX8, lw_gm (tb6 (List.mem_of_getElem? (i := 195) rfl)) rfl⟩, rfl, by decide +kernel, by decide +kernel, by decide +kernel⟩
theorem hX8_tube : Mth yX8_tube RX8 cX8_tube 9 (some .int) 5 := ⟨⟨lw_gm (tb5 (List.mem_of_getElem? (i := 89) rfl)) rfl, lw_gm (tb5 (List.mem_of_getElem? (i := 90) rfl)) rfl, nX8, lw_gm (tb5 (List.mem_of_getElem? (i := 91) rfl)) rfl⟩, rfl, by decide +kernel, by decide +kernel, by decide +kernel⟩
theorem hX8_turn : Mth yX8_turn RX8 cX8_turn 2 (some .int) 1 := ⟨⟨lw_gm (tb5 (List.mem_of_getElem? (i := 140) rfl)) rfl, lw_gm (tb5 (List.mem_of_getElem? (i := 141) rfl)) rfl, nX8, lw_gm (tb5 (List.mem_of_getElem? (i := 142) rfl)) rfl⟩, rfl, by decide +kernel, by decide +kernel, by decide +kernel⟩
theorem hX8_undo : Mth yX8_undo RX8 cX8_undo 1 (some .int) 0 := ⟨⟨lw_gm (tb5 (List.mem_of_getElem? (i := 50) rfl)) rfl, lw_gm (tb5 (List.mem_of_getElem? (i := 51) rfl)) rfl, nX8, lw_gm (tb5 (List.mem_of_getElem? (i := 52) rfl)) rfl⟩, rfl, by decide +kernel, by decide +kernel, by decide +kernel⟩
theorem hX8_until : Mth yX8_until RX8 cX8_until 4 (some .int) 1 := ⟨⟨lw_gm (tb6 (List.mem_of_getElem? (i := 217) rfl)) rfl, lw_gm (tb6 (List.mem_of_getElem? (i := 218) rfl)) rfl, nX8, lw_gm (tb6 (List.mem_of_getElem? (i := 219) rfl)) rfl⟩, rfl, by decide +kernel, by decide +kernel, by decide +kernel⟩
theorem hX8_valve : Mth yX8_valve RX8 cX8_valve 6 (some .int) 1 := ⟨⟨lw_gm (tb6 (List.mem_of_getElem? (i := 189) rfl)) rfl, lw_gm (tb6 (List.mem_of_getElem? (i := 190) rfl)) rfl, nX8, lw_gm (tb6 (List.mem_of_getElem? (i := 191) rfl)) rfl⟩, rfl, by decide +kernel, by decide +kernel, by decide +kernel⟩
theorem hX8_watch : Mth yX8_watch RX8 cX8_watch 8 (some .int) 5 := ⟨⟨lw_gm (tb5 (List.mem_of_getElem? (i := 161) rfl)) rfl, lw_gm (tb5 (List.mem_of_getElem? (i := 162) rfl)) rfl, nX8, lw_gm (tb5 (List.mem_of_getElem? (i := 163) rfl)) rfl⟩, rfl, by decide +kernel, by decide +kernel, by decide +kernel⟩
