theorem fl_12_1 : FL RX12 1 12 0 := ⟨by decide, by decide, uw12, tm6 (List.mem_of_getElem? (i := 13) (by decide +kernel)) (by decide +kernel)⟩
theorem fl_12_13 : FL RX12 13 12 1 := ⟨by decide, by decide, uw12, tm6 (List.mem_of_getElem? (i := 14) (by decide +kernel)) (by decide +kernel)⟩
theorem fl_12_149 : FL RX12 149 12 2 := ⟨by decide, by decide, uw12, tm6 (List.mem_of_getElem? (i := 15) (by decide +kernel)) (by decide +kernel)⟩
theorem fl_12_17 : FL RX12 17 12 3 := ⟨by decide, by decide, uw12, tm6 (List.mem_of_getElem? (i := 16) (by decide +kernel)) (by decide +kernel)⟩
theorem fl_12_20 : FL RX12 20 12 4 := ⟨by decide, by decide, uw12, tm6 (List.mem_of_getElem? (i := 17) (by decide +kernel)) (by decide +kernel)⟩
theorem fl_12_23 : FL RX12 23 12 5 := ⟨by decide, by decide, uw12, tm6 (List.mem_of_getElem? (i := 18) (by decide +kernel)) (by decide +kernel)⟩
theorem fl_12_26 : FL RX12 26 12 6 := ⟨by decide, by decide, uw12, tm6 (List.mem_of_getElem? (i := 19) (by decide +kernel)) (by decide +kernel)⟩
theorem fl_12_29 : FL RX12 29 12 7 := ⟨by decide, by decide, uw12, tm6 (List.mem_of_getElem? (i := 20) (by decide +kernel)) (by decide +kernel)⟩
theorem fl_12_176 : FL RX12 176 12 8 := ⟨by decide, by decide, uw12, tm6 (List.mem_of_getElem? (i := 21) (by decide +kernel)) (by decide +kernel)⟩
theorem fl_12_179 : FL RX12 179 12 9 := ⟨by decide, by decide, uw12, tm6 (List.mem_of_getElem? (i := 22) (by decide +kernel)) (by decide +kernel)⟩
theorem fl_12_182 : FL RX12 182 12 10 := ⟨by decide, by decide, uw12, tm6 (List.mem_of_getElem? (i := 23) (by decide +kernel)) (by decide +kernel)⟩
theorem fl_12_185 : FL RX12 185 12 11 := ⟨by decide, by decide, uw12, tm6 (List.mem_of_getElem? (i := 24) (by decide +kernel)) (by decide +kernel)⟩
theorem fl_12_196 : FL RX12 196 12 12 := ⟨by decide, by decide, uw12, tm6 (List.mem_of_getElem? (i := 25) (by decide +kernel)) (by decide +kernel)⟩
theorem fl_12_33 : FL RX12 33 12 13 := ⟨by decide, by decide, uw12, tm6 (List.mem_of_getElem? (i := 26) (by decide +kernel)) (by decide +kernel)⟩
theorem fl_12_36 : FL RX12 36 12 14 := ⟨by decide, by decide, uw12, tm6 (List.mem_of_getElem? (i := 27) (by decide +kernel)) (by decide +kernel)⟩
theorem fl_12_39 : FL RX12 39 12 15 := ⟨by decide, by decide, uw12, tm6 (List.mem_of_getElem? (i := 28) (by decide +kernel)) (by decide +kernel)⟩
theorem fl_12_152 : FL RX12 152 12 16 := ⟨by decide, by decide, uw12, tm6 (List.mem_of_getElem? (i := 29) (by decide +kernel)) (by decide +kernel)⟩
theorem fl_12_224 : FL RX12 224 12 17 := ⟨by decide, by decide, uw12, tm6 (List.mem_of_getElem? (i := 30) (by decide +kernel)) (by decide +kernel)⟩
theorem fl_12_42 : FL RX12 42 12 18 := ⟨by decide, by decide, uw12, tm6 (List.mem_of_getElem? (i := 31) (by decide +kernel)) (by decide +kernel)⟩
theorem fl_12_249 : FL RX12 249 12 19 := ⟨by decide, by decide, uw12, tm6 (List.mem_of_getElem? (i := 32) (by decide +kernel)) (by decide +kernel)⟩
theorem fl_12_227 : FL RX12 227 12 20 := ⟨by decide, by decide, uw12, tm6 (List.mem_of_getElem? (i := 33) (by decide +kernel)) (by decide +kernel)⟩
theorem fl_12_262 : FL RX12 262 12 21 := ⟨by decide, by decide, uw12, tm6 (List.mem_of_getElem? (i := 34) (by decide +kernel)) (by decide +kernel)⟩
theorem fl_12_45 : FL RX12 45 12 22 := ⟨by decide, by decide, uw12, tm6 (List.mem_of_getElem? (i := 35) (by decide +kernel)) (by decide +kernel)⟩
theorem fl_12_48 : FL RX12 48 12 23 := ⟨by decide, by decide, uw12, tm6 (List.mem_of_getElem? (i := 36) (by decide +kernel)) (by decide +kernel)⟩
theorem fl_12_265 : FL RX12 265 12 24 := ⟨by decide, by decide, uw12, tm6 (List.mem_of_getElem? (i := 37) (by decide +kernel)) (by decide +kernel)⟩
theorem fl_12_268 : FL RX12 268 12 25 := ⟨by decide, by decide, uw12, tm6 (List.mem_of_getElem? (i := 38) (by decide +kernel)) (by decide +kernel)⟩
theorem fl_12_271 : FL RX12 271 12 26 := ⟨by decide, by decide, uw12, tm6 (List.mem_of_getElem? (i := 39) (by decide +kernel)) (by decide +kernel)⟩
theorem fl_12_51 : FL RX12 51 12 27 := ⟨by decide, by decide, uw12, tm6 (List.mem_of_getElem? (i := 40) (by decide +kernel)) (by decide +kernel)⟩
theorem fl_12_230 : FL RX12 230 12 28 := ⟨by decide, by decide, uw12, tm6 (List.mem_of_getElem? (i := 41) (by decide +kernel)) (by decide +kernel)⟩
theorem fl_12_233 : FL RX12 233 12 29 := ⟨by decide, by decide, uw12, tm6 (List.mem_of_getElem? (i := 42) (by decide +kernel)) (by decide +kernel)⟩
theorem fl_12_54 : FL RX12 54 12 30 := ⟨by decide, by decide, uw12, tm6 (List.mem_of_getElem? (i := 43) (by decide +kernel)) (by decide +kernel)⟩
theorem fl_12_284 : FL RX12 284 12 31 := ⟨by decide, by decide, uw12, tm6 (List.mem_of_getElem? (i := 44) (by decide +kernel)) (by decide +kernel)⟩
theorem fl_12_274 : FL RX12 274 12 32 := ⟨by decide, by decide, uw12, tm6 (List.mem_of_getElem? (i := 45) (by decide +kernel)) (by decide +kernel)⟩
theorem fl_12_278 : FL RX12 278 12 33 := ⟨by decide, by decide, uw12, tm6 (List.mem_of_getElem? (i := 46) (by decide +kernel)) (by decide +kernel)⟩
theorem fl_12_57 : FL RX12 57 12 34 := ⟨by decide, by decide, uw12, tm6 (List.mem_of_getElem? (i := 47) (by decide +kernel)) (by decide +kernel)⟩
theorem fl_12_167 : FL RX12 167 12 35 := ⟨by decide, by decide, uw12, tm6 (List.mem_of_getElem? (i := 48) (by decide +kernel)) (by decide +kernel)⟩
theorem fl_12_290 : FL RX12 290 12 36 := ⟨by decide, by decide, uw12, tm6 (List.mem_of_getElem? (i := 49) (by decide +kernel)) (by decide +kernel)⟩
theorem fl_12_287 : FL RX12 287 12 37 := ⟨by decide, by decide, uw12, tm6 (List.mem_of_getElem? (i := 50) (by decide +kernel)) (by decide +kernel)⟩
theorem fl_12_302 : FL RX12 302 12 38 := ⟨by decide, by decide, uw12, tm6 (List.mem_of_getElem? (i := 51) (by decide +kernel)) (by decide +kernel)⟩
theorem fl_12_296 : FL RX12 296 12 39 := ⟨by decide, by decide, uw12, tm6 (List.mem_of_getElem? (i := 52) (by decide +kernel)) (by decide +kernel)⟩
theorem fl_12_293 : FL RX12 293 12 40 := ⟨by decide, by decide, uw12, tm6 (List.mem_of_getElem? (i := 53) (by decide +kernel)) (by decide +kernel)⟩
theorem fl_12_307 : FL RX12 307 12 41 := ⟨by decide, by decide, uw12, tm6 (List.mem_of_getElem? (i := 54) (by decide +kernel)) (by decide +kernel)⟩
theorem fl_12_60 : FL RX12 60 12 42 := ⟨by decide, by decide, uw12, tm6 (List.mem_of_getElem? (i := 55) (by decide +kernel)) (by decide +kernel)⟩
theorem fl_12_63 : FL RX12 63 12 43 := ⟨by decide, by decide, uw12, tm6 (List.mem_of_getElem? (i := 56) (by decide +kernel)) (by decide +kernel)⟩
theorem fl_12_66 : FL RX12 66 12 44 := ⟨by decide, by decide, uw12, tm6 (List.mem_of_getElem? (i := 57) (by decide +kernel)) (by decide +kernel)⟩
theorem fl_12_69 : FL RX12 69 12 45 := ⟨by decide, by decide, uw12, tm6 (List.mem_of_getElem? (i := 58) (by decide +kernel)) (by decide +kernel)⟩
theorem fl_12_72 : FL RX12 72 12 46 := ⟨by decide, by decide, uw12, tm6 (List.mem_of_getElem? (i := 59) (by decide +kernel)) (by decide +kernel)⟩
theorem fl_12_334 : FL RX12 334 12 47 := ⟨by decide, by decide, uw12, tm6 (List.mem_of_getElem? (i := 60) (by decide +kernel)) (by decide +kernel)⟩
theorem fl_12_76 : FL RX12 76 12 48 := ⟨by decide, by decide, uw12, tm6 (List.mem_of_getElem? (i := 61) (by decide +kernel)) (by decide +kernel)⟩
theorem fl_12_80 : FL RX12 80 12 49 := ⟨by decide, by decide, uw12, tm6 (List.mem_of_getElem? (i := 62) (by decide +kernel)) (by decide +kernel)⟩
theorem fl_12_84 : FL RX12 84 12 50 := ⟨by decide, by decide, uw12, tm6 (List.mem_of_getElem? (i := 63) (by decide +kernel)) (by decide +kernel)⟩
theorem fl_12_88 : FL RX12 88 12 51 := ⟨by decide, by decide, uw12, tm6 (List.mem_of_getElem? (i := 64) (by decide +kernel)) (by decide +kernel)⟩
theorem fl_12_91 : FL RX12 91 12 52 := ⟨by decide, by decide, uw12, tm6 (List.mem_of_getElem? (i := 65) (by decide +kernel)) (by decide +kernel)⟩
theorem fl_12_94 : FL RX12 94 12 53 := ⟨by decide, by decide, uw12, tm6 (List.mem_of_getElem? (i := 66) (by decide +kernel)) (by decide +kernel)⟩
theorem fl_12_97 : FL RX12 97 12 54 := ⟨by decide, by decide, uw12, tm6 (List.mem_of_getElem? (i := 67) (by decide +kernel)) (by decide +kernel)⟩
theorem fl_12_173 : FL RX12 173 12 55 := ⟨by decide, by decide, uw12, tm6 (List.mem_of_getElem? (i := 68) (by decide +kernel)) (by decide +kernel)⟩
theorem fl_12_350 : FL RX12 350 12 56 := ⟨by decide, by decide, uw12, tm6 (List.mem_of_getElem? (i := 69) (by decide +kernel)) (by decide +kernel)⟩
theorem fl_12_100 : FL RX12 100 12 57 := ⟨by decide, by decide, uw12, tm6 (List.mem_of_getElem? (i := 70) (by decide +kernel)) (by decide +kernel)⟩
theorem fl_12_359 : FL RX12 359 12 58 := ⟨by decide, by decide, uw12, tm6 (List.mem_of_getElem? (i := 71) (by decide +kernel)) (by decide +kernel)⟩
theorem fl_12_103 : FL RX12 103 12 59 := ⟨by decide, by decide, uw12, tm6 (List.mem_of_getElem? (i := 72) (by decide +kernel)) (by decide +kernel)⟩
theorem fl_12_106 : FL RX12 106 12 60 := ⟨by decide, by decide, uw12, tm6 (List.mem_of_getElem? (i := 73) (by decide +kernel)) (by decide +kernel)⟩
theorem fl_12_170 : FL RX12 170 12 61 := ⟨by decide, by decide, uw12, tm6 (List.mem_of_getElem? (i := 74) (by decide +kernel)) (by decide +kernel)⟩
theorem fl_12_109 : FL RX12 109 12 62 := ⟨by decide, by decide, uw12, tm6 (List.mem_of_getElem? (i := 75) (by decide +kernel)) (by decide +kernel)⟩
theorem fl_12_112 : FL RX12 112 12 63 := ⟨by decide, by decide, uw12, tm6 (List.mem_of_getElem? (i := 76) (by decide +kernel)) (by decide +kernel)⟩
theorem fl_12_115 : FL RX12 115 12 64 := ⟨by decide, by decide, uw12, tm6 (List.mem_of_getElem? (i := 77) (by decide +kernel)) (by decide +kernel)⟩
theorem fl_12_118 : FL RX12 118 12 65 := ⟨by decide, by decide, uw12, tm6 (List.mem_of_getElem? (i := 78) (by decide +kernel)) (by decide +kernel)⟩
theorem fl_12_122 : FL RX12 122 12 66 := ⟨by decide, by decide, uw12, tm6 (List.mem_of_getElem? (i := 79) (by decide +kernel)) (by decide +kernel)⟩
theorem fl_12_125 : FL RX12 125 12 67 := ⟨by decide, by decide, uw12, tm6 (List.mem_of_getElem? (i := 80) (by decide +kernel)) (by decide +kernel)⟩
theorem fl_12_128 : FL RX12 128 12 68 := ⟨by decide, by decide, uw12, tm6 (List.mem_of_getElem? (i := 81) (by decide +kernel)) (by decide +kernel)⟩
theorem fl_12_131 : FL RX12 131 12 69 := ⟨by decide, by decide, uw12, tm6 (List.mem_of_getElem? (i := 82) (by decide +kernel)) (by decide +kernel)⟩
theorem fl_12_134 : FL RX12 134 12 70 := ⟨by decide, by decide, uw12, tm6 (List.mem_of_getElem? (i := 83) (by decide +kernel)) (by decide +kernel)⟩
theorem fl_12_137 : FL RX12 137 12 71 := ⟨by decide, by decide, uw12, tm6 (List.mem_of_getElem? (i := 84) (by decide +kernel)) (by decide +kernel)⟩
theorem fl_12_140 : FL RX12 140 12 72 := ⟨by decide, by decide, uw12, tm6 (List.mem_of_getElem? (i := 85) (by decide +kernel)) (by decide +kernel)⟩
theorem fl_12_143 : FL RX12 143 12 73 := ⟨by decide, by decide, uw12, tm6 (List.mem_of_getElem? (i := 86) (by decide +kernel)) (by decide +kernel)⟩
theorem cw_yX12_start : Cond.code yX12_start cX12_start 3 none ∈ lwG := tm6 (List.mem_of_getElem? (i := 12) (by decide +kernel)) (by decide +kernel)
theorem im_yX12_start : Cond.instanceMethod yX12_start ∈ lwG := tm6 (List.mem_of_getElem? (i := 11) (by decide +kernel)) (by decide +kernel)
theorem se_yX12_start : Cond.selects yX12_start.cls yX12_start yX12_start ∈ lwG := lwG_in (List.mem_append_left _ (List.mem_of_getElem? (i := 40) (by decide +kernel))) (by decide +kernel)
theorem ml_12_146 : ML RX12 146 yX12_start cX12_start 3 none 0 := ⟨tm6 (List.mem_of_getElem? (i := 9) (by decide +kernel)) (by decide +kernel), cw_yX12_start, in_12, by decide, by decide +kernel, by decide +kernel⟩
theorem cw_yX12_may : Cond.code yX12_may cX12_may 3 (some .boolean) ∈ lwG := tm7 (List.mem_of_getElem? (i := 3) (by decide +kernel)) (by decide +kernel)
theorem im_yX12_may : Cond.instanceMethod yX12_may ∈ lwG := tm7 (List.mem_of_getElem? (i := 2) (by decide +kernel)) (by decide +kernel)
theorem se_yX12_may : Cond.selects yX12_may.cls yX12_may yX12_may ∈ lwG := lwG_in (List.mem_append_left _ (List.mem_of_getElem? (i := 41) (by decide +kernel))) (by decide +kernel)
theorem ml_12_155 : ML RX12 155 yX12_may cX12_may 3 (some .boolean) 2 := ⟨tm7 (List.mem_of_getElem? (i := 0) (by decide +kernel)) (by decide +kernel), cw_yX12_may, in_12, by decide, by decide +kernel, by decide +kernel⟩
theorem cw_yX12_pips : Cond.code yX12_pips cX12_pips 4 (some .int) ∈ lwG := tm7 (List.mem_of_getElem? (i := 11) (by decide +kernel)) (by decide +kernel)
theorem im_yX12_pips : Cond.instanceMethod yX12_pips ∈ lwG := tm7 (List.mem_of_getElem? (i := 10) (by decide +kernel)) (by decide +kernel)
theorem se_yX12_pips : Cond.selects yX12_pips.cls yX12_pips yX12_pips ∈ lwG := lwG_in (List.mem_append_left _ (List.mem_of_getElem? (i := 42) (by decide +kernel))) (by decide +kernel)
theorem ml_12_159 : ML RX12 159 yX12_pips cX12_pips 4 (some .int) 1 := ⟨tm7 (List.mem_of_getElem? (i := 8) (by decide +kernel)) (by decide +kernel), cw_yX12_pips, in_12, by decide, by decide +kernel, by decide +kernel⟩
theorem cw_yX12_isOver : Cond.code yX12_isOver cX12_isOver 1 (some .boolean) ∈ lwG := tm7 (List.mem_of_getElem? (i := 15) (by decide +kernel)) (by decide +kernel)
theorem im_yX12_isOver : Cond.instanceMethod yX12_isOver ∈ lwG := tm7 (List.mem_of_getElem? (i := 14) (by decide +kernel)) (by decide +kernel)
theorem se_yX12_isOver : Cond.selects yX12_isOver.cls yX12_isOver yX12_isOver ∈ lwG := lwG_in (List.mem_append_left _ (List.mem_of_getElem? (i := 43) (by decide +kernel))) (by decide +kernel)
theorem ml_12_163 : ML RX12 163 yX12_isOver cX12_isOver 1 (some .boolean) 0 := ⟨tm7 (List.mem_of_getElem? (i := 12) (by decide +kernel)) (by decide +kernel), cw_yX12_isOver, in_12, by decide, by decide +kernel, by decide +kernel⟩
theorem cw_yX12_isDie : Cond.code yX12_isDie cX12_isDie 1 (some .boolean) ∈ lwG := tm7 (List.mem_of_getElem? (i := 22) (by decide +kernel)) (by decide +kernel)
theorem sm_yX12_isDie : Cond.static yX12_isDie ∈ lwG := tm7 (List.mem_of_getElem? (i := 21) (by decide +kernel)) (by decide +kernel)
theorem ml_12_236 : ML RX12 236 yX12_isDie cX12_isDie 1 (some .boolean) 1 := ⟨tm7 (List.mem_of_getElem? (i := 20) (by decide +kernel)) (by decide +kernel), cw_yX12_isDie, in_12, by decide, by decide +kernel, by decide +kernel⟩
theorem cw_yX12_mayPlay : Cond.code yX12_mayPlay cX12_mayPlay 3 (some .boolean) ∈ lwG := tm7 (List.mem_of_getElem? (i := 26) (by decide +kernel)) (by decide +kernel)
theorem im_yX12_mayPlay : Cond.instanceMethod yX12_mayPlay ∈ lwG := tm7 (List.mem_of_getElem? (i := 25) (by decide +kernel)) (by decide +kernel)
theorem se_yX12_mayPlay : Cond.selects yX12_mayPlay.cls yX12_mayPlay yX12_mayPlay ∈ lwG := lwG_in (List.mem_append_left _ (List.mem_of_getElem? (i := 44) (by decide +kernel))) (by decide +kernel)
theorem ml_12_240 : ML RX12 240 yX12_mayPlay cX12_mayPlay 3 (some .boolean) 2 := ⟨tm7 (List.mem_of_getElem? (i := 23) (by decide +kernel)) (by decide +kernel), cw_yX12_mayPlay, in_12, by decide, by decide +kernel, by decide +kernel⟩
theorem cw_yX12_findResults : Cond.code yX12_findResults cX12_findResults 3 none ∈ lwG := tm7 (List.mem_of_getElem? (i := 30) (by decide +kernel)) (by decide +kernel)
theorem im_yX12_findResults : Cond.instanceMethod yX12_findResults ∈ lwG := tm7 (List.mem_of_getElem? (i := 29) (by decide +kernel)) (by decide +kernel)
theorem se_yX12_findResults : Cond.selects yX12_findResults.cls yX12_findResults yX12_findResults ∈ lwG := lwG_in (List.mem_append_left _ (List.mem_of_getElem? (i := 45) (by decide +kernel))) (by decide +kernel)
theorem ml_12_243 : ML RX12 243 yX12_findResults cX12_findResults 3 none 2 := ⟨tm7 (List.mem_of_getElem? (i := 27) (by decide +kernel)) (by decide +kernel), cw_yX12_findResults, in_12, by decide, by decide +kernel, by decide +kernel⟩
theorem cw_yX12_beginPlays : Cond.code yX12_beginPlays cX12_beginPlays 4 none ∈ lwG := tm7 (List.mem_of_getElem? (i := 34) (by decide +kernel)) (by decide +kernel)
theorem im_yX12_beginPlays : Cond.instanceMethod yX12_beginPlays ∈ lwG := tm7 (List.mem_of_getElem? (i := 33) (by decide +kernel)) (by decide +kernel)
theorem se_yX12_beginPlays : Cond.selects yX12_beginPlays.cls yX12_beginPlays yX12_beginPlays ∈ lwG := lwG_in (List.mem_append_left _ (List.mem_of_getElem? (i := 46) (by decide +kernel))) (by decide +kernel)
theorem ml_12_220 : ML RX12 220 yX12_beginPlays cX12_beginPlays 4 none 2 := ⟨tm7 (List.mem_of_getElem? (i := 31) (by decide +kernel)) (by decide +kernel), cw_yX12_beginPlays, in_12, by decide, by decide +kernel, by decide +kernel⟩
theorem cw_yX12_walk : Cond.code yX12_walk cX12_walk 8 (some .int) ∈ lwG := tm7 (List.mem_of_getElem? (i := 38) (by decide +kernel)) (by decide +kernel)
theorem im_yX12_walk : Cond.instanceMethod yX12_walk ∈ lwG := tm7 (List.mem_of_getElem? (i := 37) (by decide +kernel)) (by decide +kernel)
theorem se_yX12_walk : Cond.selects yX12_walk.cls yX12_walk yX12_walk ∈ lwG := lwG_in (List.mem_append_left _ (List.mem_of_getElem? (i := 47) (by decide +kernel))) (by decide +kernel)
theorem ml_12_210 : ML RX12 210 yX12_walk cX12_walk 8 (some .int) 1 := ⟨tm7 (List.mem_of_getElem? (i := 35) (by decide +kernel)) (by decide +kernel), cw_yX12_walk, in_12, by decide, by decide +kernel, by decide +kernel⟩
theorem cw_yX12_keep : Cond.code yX12_keep cX12_keep 6 none ∈ lwG := tm7 (List.mem_of_getElem? (i := 42) (by decide +kernel)) (by decide +kernel)
theorem im_yX12_keep : Cond.instanceMethod yX12_keep ∈ lwG := tm7 (List.mem_of_getElem? (i := 41) (by decide +kernel)) (by decide +kernel)
theorem se_yX12_keep : Cond.selects yX12_keep.cls yX12_keep yX12_keep ∈ lwG := lwG_in (List.mem_append_left _ (List.mem_of_getElem? (i := 48) (by decide +kernel))) (by decide +kernel)
theorem ml_12_188 : ML RX12 188 yX12_keep cX12_keep 6 none 1 := ⟨tm7 (List.mem_of_getElem? (i := 39) (by decide +kernel)) (by decide +kernel), cw_yX12_keep, in_12, by decide, by decide +kernel, by decide +kernel⟩
theorem cw_yX12_find : Cond.code yX12_find cX12_find 5 (some .int) ∈ lwG := tm7 (List.mem_of_getElem? (i := 46) (by decide +kernel)) (by decide +kernel)
theorem im_yX12_find : Cond.instanceMethod yX12_find ∈ lwG := tm7 (List.mem_of_getElem? (i := 45) (by decide +kernel)) (by decide +kernel)
theorem se_yX12_find : Cond.selects yX12_find.cls yX12_find yX12_find ∈ lwG := lwG_in (List.mem_append_left _ (List.mem_of_getElem? (i := 49) (by decide +kernel))) (by decide +kernel)
theorem ml_12_217 : ML RX12 217 yX12_find cX12_find 5 (some .int) 1 := ⟨tm7 (List.mem_of_getElem? (i := 43) (by decide +kernel)) (by decide +kernel), cw_yX12_find, in_12, by decide, by decide +kernel, by decide +kernel⟩
theorem cw_yX12_against : Cond.code yX12_against cX12_against 7 (some .int) ∈ lwG := tm7 (List.mem_of_getElem? (i := 50) (by decide +kernel)) (by decide +kernel)
theorem im_yX12_against : Cond.instanceMethod yX12_against ∈ lwG := tm7 (List.mem_of_getElem? (i := 49) (by decide +kernel)) (by decide +kernel)
theorem se_yX12_against : Cond.selects yX12_against.cls yX12_against yX12_against ∈ lwG := lwG_in (List.mem_append_left _ (List.mem_of_getElem? (i := 50) (by decide +kernel))) (by decide +kernel)
theorem ml_12_214 : ML RX12 214 yX12_against cX12_against 7 (some .int) 2 := ⟨tm7 (List.mem_of_getElem? (i := 47) (by decide +kernel)) (by decide +kernel), cw_yX12_against, in_12, by decide, by decide +kernel, by decide +kernel⟩
theorem cw_yX12_isLeft : Cond.code yX12_isLeft cX12_isLeft 3 (some .boolean) ∈ lwG := tm7 (List.mem_of_getElem? (i := 54) (by decide +kernel)) (by decide +kernel)
theorem im_yX12_isLeft : Cond.instanceMethod yX12_isLeft ∈ lwG := tm7 (List.mem_of_getElem? (i := 53) (by decide +kernel)) (by decide +kernel)
theorem se_yX12_isLeft : Cond.selects yX12_isLeft.cls yX12_isLeft yX12_isLeft ∈ lwG := lwG_in (List.mem_append_left _ (List.mem_of_getElem? (i := 51) (by decide +kernel))) (by decide +kernel)
theorem ml_12_192 : ML RX12 192 yX12_isLeft cX12_isLeft 3 (some .boolean) 2 := ⟨tm7 (List.mem_of_getElem? (i := 51) (by decide +kernel)) (by decide +kernel), cw_yX12_isLeft, in_12, by decide, by decide +kernel, by decide +kernel⟩
theorem cw_yX12_canMove : Cond.code yX12_canMove cX12_canMove 9 (some .boolean) ∈ lwG := tm7 (List.mem_of_getElem? (i := 58) (by decide +kernel)) (by decide +kernel)
theorem im_yX12_canMove : Cond.instanceMethod yX12_canMove ∈ lwG := tm7 (List.mem_of_getElem? (i := 57) (by decide +kernel)) (by decide +kernel)
theorem se_yX12_canMove : Cond.selects yX12_canMove.cls yX12_canMove yX12_canMove ∈ lwG := lwG_in (List.mem_append_left _ (List.mem_of_getElem? (i := 52) (by decide +kernel))) (by decide +kernel)
theorem ml_12_199 : ML RX12 199 yX12_canMove cX12_canMove 9 (some .boolean) 3 := ⟨tm7 (List.mem_of_getElem? (i := 55) (by decide +kernel)) (by decide +kernel), cw_yX12_canMove, in_12, by decide, by decide +kernel, by decide +kernel⟩
theorem cw_yX12_move : Cond.code yX12_move cX12_move 7 (some .boolean) ∈ lwG := tm7 (List.mem_of_getElem? (i := 62) (by decide +kernel)) (by decide +kernel)
theorem im_yX12_move : Cond.instanceMethod yX12_move ∈ lwG := tm7 (List.mem_of_getElem? (i := 61) (by decide +kernel)) (by decide +kernel)
theorem se_yX12_move : Cond.selects yX12_move.cls yX12_move yX12_move ∈ lwG := lwG_in (List.mem_append_left _ (List.mem_of_getElem? (i := 53) (by decide +kernel))) (by decide +kernel)
theorem ml_12_203 : ML RX12 203 yX12_move cX12_move 7 (some .boolean) 3 := ⟨tm7 (List.mem_of_getElem? (i := 59) (by decide +kernel)) (by decide +kernel), cw_yX12_move, in_12, by decide, by decide +kernel, by decide +kernel⟩
theorem cw_yX12_without : Cond.code yX12_without cX12_without 3 (some .int) ∈ lwG := tm7 (List.mem_of_getElem? (i := 66) (by decide +kernel)) (by decide +kernel)
theorem im_yX12_without : Cond.instanceMethod yX12_without ∈ lwG := tm7 (List.mem_of_getElem? (i := 65) (by decide +kernel)) (by decide +kernel)
theorem se_yX12_without : Cond.selects yX12_without.cls yX12_without yX12_without ∈ lwG := lwG_in (List.mem_append_left _ (List.mem_of_getElem? (i := 54) (by decide +kernel))) (by decide +kernel)
theorem ml_12_206 : ML RX12 206 yX12_without cX12_without 3 (some .int) 2 := ⟨tm7 (List.mem_of_getElem? (i := 63) (by decide +kernel)) (by decide +kernel), cw_yX12_without, in_12, by decide, by decide +kernel, by decide +kernel⟩
theorem cw_yX12_isResult : Cond.code yX12_isResult cX12_isResult 2 (some .boolean) ∈ lwG := tm7 (List.mem_of_getElem? (i := 74) (by decide +kernel)) (by decide +kernel)
theorem im_yX12_isResult : Cond.instanceMethod yX12_isResult ∈ lwG := tm7 (List.mem_of_getElem? (i := 73) (by decide +kernel)) (by decide +kernel)
theorem se_yX12_isResult : Cond.selects yX12_isResult.cls yX12_isResult yX12_isResult ∈ lwG := lwG_in (List.mem_append_left _ (List.mem_of_getElem? (i := 55) (by decide +kernel))) (by decide +kernel)
theorem ml_12_246 : ML RX12 246 yX12_isResult cX12_isResult 2 (some .boolean) 1 := ⟨tm7 (List.mem_of_getElem? (i := 71) (by decide +kernel)) (by decide +kernel), cw_yX12_isResult, in_12, by decide, by decide +kernel, by decide +kernel⟩
theorem cw_yX12_isMatch : Cond.code yX12_isMatch cX12_isMatch 1 (some .boolean) ∈ lwG := tm7 (List.mem_of_getElem? (i := 86) (by decide +kernel)) (by decide +kernel)
theorem im_yX12_isMatch : Cond.instanceMethod yX12_isMatch ∈ lwG := tm7 (List.mem_of_getElem? (i := 85) (by decide +kernel)) (by decide +kernel)
theorem se_yX12_isMatch : Cond.selects yX12_isMatch.cls yX12_isMatch yX12_isMatch ∈ lwG := lwG_in (List.mem_append_left _ (List.mem_of_getElem? (i := 56) (by decide +kernel))) (by decide +kernel)
theorem ml_12_252 : ML RX12 252 yX12_isMatch cX12_isMatch 1 (some .boolean) 0 := ⟨tm7 (List.mem_of_getElem? (i := 83) (by decide +kernel)) (by decide +kernel), cw_yX12_isMatch, in_12, by decide, by decide +kernel, by decide +kernel⟩
theorem cw_yX12_remember : Cond.code yX12_remember cX12_remember 2 none ∈ lwG := tm7 (List.mem_of_getElem? (i := 94) (by decide +kernel)) (by decide +kernel)
theorem im_yX12_remember : Cond.instanceMethod yX12_remember ∈ lwG := tm7 (List.mem_of_getElem? (i := 93) (by decide +kernel)) (by decide +kernel)
theorem se_yX12_remember : Cond.selects yX12_remember.cls yX12_remember yX12_remember ∈ lwG := lwG_in (List.mem_append_left _ (List.mem_of_getElem? (i := 57) (by decide +kernel))) (by decide +kernel)
theorem ml_12_255 : ML RX12 255 yX12_remember cX12_remember 2 none 0 := ⟨tm7 (List.mem_of_getElem? (i := 91) (by decide +kernel)) (by decide +kernel), cw_yX12_remember, in_12, by decide, by decide +kernel, by decide +kernel⟩
theorem cw_yX12_gameOver : Cond.code yX12_gameOver cX12_gameOver 6 none ∈ lwG := tm7 (List.mem_of_getElem? (i := 98) (by decide +kernel)) (by decide +kernel)
theorem im_yX12_gameOver : Cond.instanceMethod yX12_gameOver ∈ lwG := tm7 (List.mem_of_getElem? (i := 97) (by decide +kernel)) (by decide +kernel)
theorem se_yX12_gameOver : Cond.selects yX12_gameOver.cls yX12_gameOver yX12_gameOver ∈ lwG := lwG_in (List.mem_append_left _ (List.mem_of_getElem? (i := 58) (by decide +kernel))) (by decide +kernel)
theorem ml_12_258 : ML RX12 258 yX12_gameOver cX12_gameOver 6 none 2 := ⟨tm7 (List.mem_of_getElem? (i := 95) (by decide +kernel)) (by decide +kernel), cw_yX12_gameOver, in_12, by decide, by decide +kernel, by decide +kernel⟩
theorem cw_yX12_game : Cond.code yX12_game cX12_game 1 none ∈ lwG := tm7 (List.mem_of_getElem? (i := 106) (by decide +kernel)) (by decide +kernel)
theorem im_yX12_game : Cond.instanceMethod yX12_game ∈ lwG := tm7 (List.mem_of_getElem? (i := 105) (by decide +kernel)) (by decide +kernel)
theorem se_yX12_game : Cond.selects yX12_game.cls yX12_game yX12_game ∈ lwG := lwG_in (List.mem_append_left _ (List.mem_of_getElem? (i := 59) (by decide +kernel))) (by decide +kernel)
theorem ml_12_281 : ML RX12 281 yX12_game cX12_game 1 none 0 := ⟨tm7 (List.mem_of_getElem? (i := 103) (by decide +kernel)) (by decide +kernel), cw_yX12_game, in_12, by decide, by decide +kernel, by decide +kernel⟩
theorem cw_yX12_beginText : Cond.code yX12_beginText cX12_beginText 2 none ∈ lwG := tm7 (List.mem_of_getElem? (i := 142) (by decide +kernel)) (by decide +kernel)
theorem im_yX12_beginText : Cond.instanceMethod yX12_beginText ∈ lwG := tm7 (List.mem_of_getElem? (i := 141) (by decide +kernel)) (by decide +kernel)
theorem se_yX12_beginText : Cond.selects yX12_beginText.cls yX12_beginText yX12_beginText ∈ lwG := lwG_in (List.mem_append_left _ (List.mem_of_getElem? (i := 60) (by decide +kernel))) (by decide +kernel)
theorem ml_12_322 : ML RX12 322 yX12_beginText cX12_beginText 2 none 1 := ⟨tm7 (List.mem_of_getElem? (i := 139) (by decide +kernel)) (by decide +kernel), cw_yX12_beginText, in_12, by decide, by decide +kernel, by decide +kernel⟩
theorem cw_yX12_go : Cond.code yX12_go cX12_go 2 none ∈ lwG := tm7 (List.mem_of_getElem? (i := 146) (by decide +kernel)) (by decide +kernel)
theorem im_yX12_go : Cond.instanceMethod yX12_go ∈ lwG := tm7 (List.mem_of_getElem? (i := 145) (by decide +kernel)) (by decide +kernel)
theorem se_yX12_go : Cond.selects yX12_go.cls yX12_go yX12_go ∈ lwG := lwG_in (List.mem_append_left _ (List.mem_of_getElem? (i := 61) (by decide +kernel))) (by decide +kernel)
theorem ml_12_316 : ML RX12 316 yX12_go cX12_go 2 none 0 := ⟨tm7 (List.mem_of_getElem? (i := 143) (by decide +kernel)) (by decide +kernel), cw_yX12_go, in_12, by decide, by decide +kernel, by decide +kernel⟩
theorem cw_yX12_isByte : Cond.code yX12_isByte cX12_isByte 3 (some .boolean) ∈ lwG := tm7 (List.mem_of_getElem? (i := 150) (by decide +kernel)) (by decide +kernel)
theorem im_yX12_isByte : Cond.instanceMethod yX12_isByte ∈ lwG := tm7 (List.mem_of_getElem? (i := 149) (by decide +kernel)) (by decide +kernel)
theorem se_yX12_isByte : Cond.selects yX12_isByte.cls yX12_isByte yX12_isByte ∈ lwG := lwG_in (List.mem_append_left _ (List.mem_of_getElem? (i := 62) (by decide +kernel))) (by decide +kernel)
theorem ml_12_299 : ML RX12 299 yX12_isByte cX12_isByte 3 (some .boolean) 2 := ⟨tm7 (List.mem_of_getElem? (i := 147) (by decide +kernel)) (by decide +kernel), cw_yX12_isByte, in_12, by decide, by decide +kernel, by decide +kernel⟩
theorem cw_yX12_stacks : Cond.code yX12_stacks cX12_stacks 5 none ∈ lwG := tm7 (List.mem_of_getElem? (i := 156) (by decide +kernel)) (by decide +kernel)
theorem im_yX12_stacks : Cond.instanceMethod yX12_stacks ∈ lwG := tm7 (List.mem_of_getElem? (i := 155) (by decide +kernel)) (by decide +kernel)
theorem se_yX12_stacks : Cond.selects yX12_stacks.cls yX12_stacks yX12_stacks ∈ lwG := lwG_in (List.mem_append_left _ (List.mem_of_getElem? (i := 63) (by decide +kernel))) (by decide +kernel)
theorem ml_12_325 : ML RX12 325 yX12_stacks cX12_stacks 5 none 1 := ⟨tm7 (List.mem_of_getElem? (i := 153) (by decide +kernel)) (by decide +kernel), cw_yX12_stacks, in_12, by decide, by decide +kernel, by decide +kernel⟩
theorem cw_yX12_fine : Cond.code yX12_fine cX12_fine 1 (some .boolean) ∈ lwG := tm7 (List.mem_of_getElem? (i := 160) (by decide +kernel)) (by decide +kernel)
theorem im_yX12_fine : Cond.instanceMethod yX12_fine ∈ lwG := tm7 (List.mem_of_getElem? (i := 159) (by decide +kernel)) (by decide +kernel)
theorem se_yX12_fine : Cond.selects yX12_fine.cls yX12_fine yX12_fine ∈ lwG := lwG_in (List.mem_append_left _ (List.mem_of_getElem? (i := 64) (by decide +kernel))) (by decide +kernel)
theorem ml_12_310 : ML RX12 310 yX12_fine cX12_fine 1 (some .boolean) 0 := ⟨tm7 (List.mem_of_getElem? (i := 157) (by decide +kernel)) (by decide +kernel), cw_yX12_fine, in_12, by decide, by decide +kernel, by decide +kernel⟩
theorem cw_yX12_is : Cond.code yX12_is cX12_is 2 (some .boolean) ∈ lwG := tm7 (List.mem_of_getElem? (i := 164) (by decide +kernel)) (by decide +kernel)
theorem im_yX12_is : Cond.instanceMethod yX12_is ∈ lwG := tm7 (List.mem_of_getElem? (i := 163) (by decide +kernel)) (by decide +kernel)
theorem se_yX12_is : Cond.selects yX12_is.cls yX12_is yX12_is ∈ lwG := lwG_in (List.mem_append_left _ (List.mem_of_getElem? (i := 65) (by decide +kernel))) (by decide +kernel)
theorem ml_12_313 : ML RX12 313 yX12_is cX12_is 2 (some .boolean) 1 := ⟨tm7 (List.mem_of_getElem? (i := 161) (by decide +kernel)) (by decide +kernel), cw_yX12_is, in_12, by decide, by decide +kernel, by decide +kernel⟩
theorem cw_yX12_isNumber : Cond.code yX12_isNumber cX12_isNumber 3 none ∈ lwG := tm7 (List.mem_of_getElem? (i := 168) (by decide +kernel)) (by decide +kernel)
theorem im_yX12_isNumber : Cond.instanceMethod yX12_isNumber ∈ lwG := tm7 (List.mem_of_getElem? (i := 167) (by decide +kernel)) (by decide +kernel)
theorem se_yX12_isNumber : Cond.selects yX12_isNumber.cls yX12_isNumber yX12_isNumber ∈ lwG := lwG_in (List.mem_append_left _ (List.mem_of_getElem? (i := 66) (by decide +kernel))) (by decide +kernel)
theorem ml_12_331 : ML RX12 331 yX12_isNumber cX12_isNumber 3 none 2 := ⟨tm7 (List.mem_of_getElem? (i := 165) (by decide +kernel)) (by decide +kernel), cw_yX12_isNumber, in_12, by decide, by decide +kernel, by decide +kernel⟩
theorem cw_yX12_wrong : Cond.code yX12_wrong cX12_wrong 3 none ∈ lwG := tm7 (List.mem_of_getElem? (i := 172) (by decide +kernel)) (by decide +kernel)
theorem im_yX12_wrong : Cond.instanceMethod yX12_wrong ∈ lwG := tm7 (List.mem_of_getElem? (i := 171) (by decide +kernel)) (by decide +kernel)
theorem se_yX12_wrong : Cond.selects yX12_wrong.cls yX12_wrong yX12_wrong ∈ lwG := lwG_in (List.mem_append_left _ (List.mem_of_getElem? (i := 67) (by decide +kernel))) (by decide +kernel)
theorem ml_12_319 : ML RX12 319 yX12_wrong cX12_wrong 3 none 2 := ⟨tm7 (List.mem_of_getElem? (i := 169) (by decide +kernel)) (by decide +kernel), cw_yX12_wrong, in_12, by decide, by decide +kernel, by decide +kernel⟩
theorem cw_yX12_need : Cond.code yX12_need cX12_need 2 none ∈ lwG := tm7 (List.mem_of_getElem? (i := 176) (by decide +kernel)) (by decide +kernel)
theorem im_yX12_need : Cond.instanceMethod yX12_need ∈ lwG := tm7 (List.mem_of_getElem? (i := 175) (by decide +kernel)) (by decide +kernel)
theorem se_yX12_need : Cond.selects yX12_need.cls yX12_need yX12_need ∈ lwG := lwG_in (List.mem_append_left _ (List.mem_of_getElem? (i := 68) (by decide +kernel))) (by decide +kernel)
theorem ml_12_328 : ML RX12 328 yX12_need cX12_need 2 none 1 := ⟨tm7 (List.mem_of_getElem? (i := 173) (by decide +kernel)) (by decide +kernel), cw_yX12_need, in_12, by decide, by decide +kernel, by decide +kernel⟩
theorem cw_yX12_sayMove : Cond.code yX12_sayMove cX12_sayMove 6 none ∈ lwG := tm7 (List.mem_of_getElem? (i := 184) (by decide +kernel)) (by decide +kernel)
theorem im_yX12_sayMove : Cond.instanceMethod yX12_sayMove ∈ lwG := tm7 (List.mem_of_getElem? (i := 183) (by decide +kernel)) (by decide +kernel)
theorem se_yX12_sayMove : Cond.selects yX12_sayMove.cls yX12_sayMove yX12_sayMove ∈ lwG := lwG_in (List.mem_append_left _ (List.mem_of_getElem? (i := 69) (by decide +kernel))) (by decide +kernel)
theorem ml_12_337 : ML RX12 337 yX12_sayMove cX12_sayMove 6 none 0 := ⟨tm7 (List.mem_of_getElem? (i := 181) (by decide +kernel)) (by decide +kernel), cw_yX12_sayMove, in_12, by decide, by decide +kernel, by decide +kernel⟩
theorem cw_yX12_canSay : Cond.code yX12_canSay cX12_canSay 6 (some .boolean) ∈ lwG := tm7 (List.mem_of_getElem? (i := 188) (by decide +kernel)) (by decide +kernel)
theorem im_yX12_canSay : Cond.instanceMethod yX12_canSay ∈ lwG := tm7 (List.mem_of_getElem? (i := 187) (by decide +kernel)) (by decide +kernel)
theorem se_yX12_canSay : Cond.selects yX12_canSay.cls yX12_canSay yX12_canSay ∈ lwG := lwG_in (List.mem_append_left _ (List.mem_of_getElem? (i := 70) (by decide +kernel))) (by decide +kernel)
theorem ml_12_340 : ML RX12 340 yX12_canSay cX12_canSay 6 (some .boolean) 1 := ⟨tm7 (List.mem_of_getElem? (i := 185) (by decide +kernel)) (by decide +kernel), cw_yX12_canSay, in_12, by decide, by decide +kernel, by decide +kernel⟩
theorem cw_yX12_ready : Cond.code yX12_ready cX12_ready 4 none ∈ lwG := tm7 (List.mem_of_getElem? (i := 196) (by decide +kernel)) (by decide +kernel)
theorem im_yX12_ready : Cond.instanceMethod yX12_ready ∈ lwG := tm7 (List.mem_of_getElem? (i := 195) (by decide +kernel)) (by decide +kernel)
theorem se_yX12_ready : Cond.selects yX12_ready.cls yX12_ready yX12_ready ∈ lwG := lwG_in (List.mem_append_left _ (List.mem_of_getElem? (i := 71) (by decide +kernel))) (by decide +kernel)
theorem ml_12_369 : ML RX12 369 yX12_ready cX12_ready 4 none 0 := ⟨tm7 (List.mem_of_getElem? (i := 193) (by decide +kernel)) (by decide +kernel), cw_yX12_ready, in_12, by decide, by decide +kernel, by decide +kernel⟩
theorem cw_yX12_times : Cond.code yX12_times cX12_times 5 none ∈ lwG := tm7 (List.mem_of_getElem? (i := 199) (by decide +kernel)) (by decide +kernel)
theorem sm_yX12_times : Cond.static yX12_times ∈ lwG := tm7 (List.mem_of_getElem? (i := 198) (by decide +kernel)) (by decide +kernel)
theorem ml_12_353 : ML RX12 353 yX12_times cX12_times 5 none 2 := ⟨tm7 (List.mem_of_getElem? (i := 197) (by decide +kernel)) (by decide +kernel), cw_yX12_times, in_12, by decide, by decide +kernel, by decide +kernel⟩
theorem cw_yX12_work : Cond.code yX12_work cX12_work 10 none ∈ lwG := tm7 (List.mem_of_getElem? (i := 204) (by decide +kernel)) (by decide +kernel)
theorem im_yX12_work : Cond.instanceMethod yX12_work ∈ lwG := tm7 (List.mem_of_getElem? (i := 203) (by decide +kernel)) (by decide +kernel)
theorem se_yX12_work : Cond.selects yX12_work.cls yX12_work yX12_work ∈ lwG := lwG_in (List.mem_append_left _ (List.mem_of_getElem? (i := 72) (by decide +kernel))) (by decide +kernel)
theorem ml_12_372 : ML RX12 372 yX12_work cX12_work 10 none 1 := ⟨tm7 (List.mem_of_getElem? (i := 201) (by decide +kernel)) (by decide +kernel), cw_yX12_work, in_12, by decide, by decide +kernel, by decide +kernel⟩
theorem cw_yX12_numberOf : Cond.code yX12_numberOf cX12_numberOf 7 (some .int) ∈ lwG := tm7 (List.mem_of_getElem? (i := 208) (by decide +kernel)) (by decide +kernel)
theorem im_yX12_numberOf : Cond.instanceMethod yX12_numberOf ∈ lwG := tm7 (List.mem_of_getElem? (i := 207) (by decide +kernel)) (by decide +kernel)
theorem se_yX12_numberOf : Cond.selects yX12_numberOf.cls yX12_numberOf yX12_numberOf ∈ lwG := lwG_in (List.mem_append_left _ (List.mem_of_getElem? (i := 73) (by decide +kernel))) (by decide +kernel)
theorem ml_12_375 : ML RX12 375 yX12_numberOf cX12_numberOf 7 (some .int) 1 := ⟨tm7 (List.mem_of_getElem? (i := 205) (by decide +kernel)) (by decide +kernel), cw_yX12_numberOf, in_12, by decide, by decide +kernel, by decide +kernel⟩
theorem cw_yX12_on : Cond.code yX12_on cX12_on 2 (some .int) ∈ lwG := tm7 (List.mem_of_getElem? (i := 211) (by decide +kernel)) (by decide +kernel)
theorem sm_yX12_on : Cond.static yX12_on ∈ lwG := tm7 (List.mem_of_getElem? (i := 210) (by decide +kernel)) (by decide +kernel)
theorem ml_12_344 : ML RX12 344 yX12_on cX12_on 2 (some .int) 2 := ⟨tm7 (List.mem_of_getElem? (i := 209) (by decide +kernel)) (by decide +kernel), cw_yX12_on, in_12, by decide, by decide +kernel, by decide +kernel⟩
theorem cw_yX12_standResults : Cond.code yX12_standResults cX12_standResults 9 (some .int) ∈ lwG := tm7 (List.mem_of_getElem? (i := 215) (by decide +kernel)) (by decide +kernel)
theorem im_yX12_standResults : Cond.instanceMethod yX12_standResults ∈ lwG := tm7 (List.mem_of_getElem? (i := 214) (by decide +kernel)) (by decide +kernel)
theorem se_yX12_standResults : Cond.selects yX12_standResults.cls yX12_standResults yX12_standResults ∈ lwG := lwG_in (List.mem_append_left _ (List.mem_of_getElem? (i := 74) (by decide +kernel))) (by decide +kernel)
theorem ml_12_378 : ML RX12 378 yX12_standResults cX12_standResults 9 (some .int) 3 := ⟨tm7 (List.mem_of_getElem? (i := 212) (by decide +kernel)) (by decide +kernel), cw_yX12_standResults, in_12, by decide, by decide +kernel, by decide +kernel⟩
theorem cw_yX12_moveAll : Cond.code yX12_moveAll cX12_moveAll 10 none ∈ lwG := tm7 (List.mem_of_getElem? (i := 219) (by decide +kernel)) (by decide +kernel)
theorem im_yX12_moveAll : Cond.instanceMethod yX12_moveAll ∈ lwG := tm7 (List.mem_of_getElem? (i := 218) (by decide +kernel)) (by decide +kernel)
theorem se_yX12_moveAll : Cond.selects yX12_moveAll.cls yX12_moveAll yX12_moveAll ∈ lwG := lwG_in (List.mem_append_left _ (List.mem_of_getElem? (i := 75) (by decide +kernel))) (by decide +kernel)
theorem ml_12_365 : ML RX12 365 yX12_moveAll cX12_moveAll 10 none 4 := ⟨tm7 (List.mem_of_getElem? (i := 216) (by decide +kernel)) (by decide +kernel), cw_yX12_moveAll, in_12, by decide, by decide +kernel, by decide +kernel⟩
theorem cw_yX12_reach : Cond.code yX12_reach cX12_reach 4 none ∈ lwG := tm7 (List.mem_of_getElem? (i := 223) (by decide +kernel)) (by decide +kernel)
theorem im_yX12_reach : Cond.instanceMethod yX12_reach ∈ lwG := tm7 (List.mem_of_getElem? (i := 222) (by decide +kernel)) (by decide +kernel)
theorem se_yX12_reach : Cond.selects yX12_reach.cls yX12_reach yX12_reach ∈ lwG := lwG_in (List.mem_append_left _ (List.mem_of_getElem? (i := 76) (by decide +kernel))) (by decide +kernel)
theorem ml_12_362 : ML RX12 362 yX12_reach cX12_reach 4 none 2 := ⟨tm7 (List.mem_of_getElem? (i := 220) (by decide +kernel)) (by decide +kernel), cw_yX12_reach, in_12, by decide, by decide +kernel, by decide +kernel⟩
theorem cw_yX12_compareRolls : Cond.code yX12_compareRolls cX12_compareRolls 5 (some .int) ∈ lwG := tm7 (List.mem_of_getElem? (i := 227) (by decide +kernel)) (by decide +kernel)
theorem im_yX12_compareRolls : Cond.instanceMethod yX12_compareRolls ∈ lwG := tm7 (List.mem_of_getElem? (i := 226) (by decide +kernel)) (by decide +kernel)
theorem se_yX12_compareRolls : Cond.selects yX12_compareRolls.cls yX12_compareRolls yX12_compareRolls ∈ lwG := lwG_in (List.mem_append_left _ (List.mem_of_getElem? (i := 77) (by decide +kernel))) (by decide +kernel)
theorem ml_12_382 : ML RX12 382 yX12_compareRolls cX12_compareRolls 5 (some .int) 2 := ⟨tm7 (List.mem_of_getElem? (i := 224) (by decide +kernel)) (by decide +kernel), cw_yX12_compareRolls, in_12, by decide, by decide +kernel, by decide +kernel⟩
theorem cw_yX12_diceNumber : Cond.code yX12_diceNumber cX12_diceNumber 2 (some .int) ∈ lwG := tm7 (List.mem_of_getElem? (i := 230) (by decide +kernel)) (by decide +kernel)
theorem sm_yX12_diceNumber : Cond.static yX12_diceNumber ∈ lwG := tm7 (List.mem_of_getElem? (i := 229) (by decide +kernel)) (by decide +kernel)
theorem ml_12_385 : ML RX12 385 yX12_diceNumber cX12_diceNumber 2 (some .int) 2 := ⟨tm7 (List.mem_of_getElem? (i := 228) (by decide +kernel)) (by decide +kernel), cw_yX12_diceNumber, in_12, by decide, by decide +kernel, by decide +kernel⟩
theorem cw_yX12_addRolls : Cond.code yX12_addRolls cX12_addRolls 6 none ∈ lwG := tm7 (List.mem_of_getElem? (i := 234) (by decide +kernel)) (by decide +kernel)
theorem im_yX12_addRolls : Cond.instanceMethod yX12_addRolls ∈ lwG := tm7 (List.mem_of_getElem? (i := 233) (by decide +kernel)) (by decide +kernel)
theorem se_yX12_addRolls : Cond.selects yX12_addRolls.cls yX12_addRolls yX12_addRolls ∈ lwG := lwG_in (List.mem_append_left _ (List.mem_of_getElem? (i := 78) (by decide +kernel))) (by decide +kernel)
theorem ml_12_388 : ML RX12 388 yX12_addRolls cX12_addRolls 6 none 2 := ⟨tm7 (List.mem_of_getElem? (i := 231) (by decide +kernel)) (by decide +kernel), cw_yX12_addRolls, in_12, by decide, by decide +kernel, by decide +kernel⟩
theorem cw_yX12_over : Cond.code yX12_over cX12_over 5 (some .int) ∈ lwG := tm7 (List.mem_of_getElem? (i := 237) (by decide +kernel)) (by decide +kernel)
theorem sm_yX12_over : Cond.static yX12_over ∈ lwG := tm7 (List.mem_of_getElem? (i := 236) (by decide +kernel)) (by decide +kernel)
theorem ml_12_391 : ML RX12 391 yX12_over cX12_over 5 (some .int) 2 := ⟨tm7 (List.mem_of_getElem? (i := 235) (by decide +kernel)) (by decide +kernel), cw_yX12_over, in_12, by decide, by decide +kernel, by decide +kernel⟩
theorem cw_yX12_isStand : Cond.code yX12_isStand cX12_isStand 3 (some .boolean) ∈ lwG := tm8 (List.mem_of_getElem? (i := 4) (by decide +kernel)) (by decide +kernel)
theorem sm_yX12_isStand : Cond.static yX12_isStand ∈ lwG := tm8 (List.mem_of_getElem? (i := 3) (by decide +kernel)) (by decide +kernel)
theorem ml_12_395 : ML RX12 395 yX12_isStand cX12_isStand 3 (some .boolean) 1 := ⟨tm8 (List.mem_of_getElem? (i := 2) (by decide +kernel)) (by decide +kernel), cw_yX12_isStand, in_12, by decide, by decide +kernel, by decide +kernel⟩
theorem cw_yX12_isKnown : Cond.code yX12_isKnown cX12_isKnown 2 (some .boolean) ∈ lwG := tm8 (List.mem_of_getElem? (i := 9) (by decide +kernel)) (by decide +kernel)
theorem im_yX12_isKnown : Cond.instanceMethod yX12_isKnown ∈ lwG := tm8 (List.mem_of_getElem? (i := 8) (by decide +kernel)) (by decide +kernel)
theorem se_yX12_isKnown : Cond.selects yX12_isKnown.cls yX12_isKnown yX12_isKnown ∈ lwG := lwG_in (List.mem_append_left _ (List.mem_of_getElem? (i := 79) (by decide +kernel))) (by decide +kernel)
theorem ml_12_398 : ML RX12 398 yX12_isKnown cX12_isKnown 2 (some .boolean) 1 := ⟨tm8 (List.mem_of_getElem? (i := 6) (by decide +kernel)) (by decide +kernel), cw_yX12_isKnown, in_12, by decide, by decide +kernel, by decide +kernel⟩
theorem cw_yX12_pipsOf : Cond.code yX12_pipsOf cX12_pipsOf 3 (some .int) ∈ lwG := tm8 (List.mem_of_getElem? (i := 12) (by decide +kernel)) (by decide +kernel)
theorem sm_yX12_pipsOf : Cond.static yX12_pipsOf ∈ lwG := tm8 (List.mem_of_getElem? (i := 11) (by decide +kernel)) (by decide +kernel)
theorem ml_12_347 : ML RX12 347 yX12_pipsOf cX12_pipsOf 3 (some .int) 1 := ⟨tm8 (List.mem_of_getElem? (i := 10) (by decide +kernel)) (by decide +kernel), cw_yX12_pipsOf, in_12, by decide, by decide +kernel, by decide +kernel⟩
theorem cw_yX12_printOver : Cond.code yX12_printOver cX12_printOver 4 (some .int) ∈ lwG := tm8 (List.mem_of_getElem? (i := 20) (by decide +kernel)) (by decide +kernel)
theorem im_yX12_printOver : Cond.instanceMethod yX12_printOver ∈ lwG := tm8 (List.mem_of_getElem? (i := 19) (by decide +kernel)) (by decide +kernel)
theorem se_yX12_printOver : Cond.selects yX12_printOver.cls yX12_printOver yX12_printOver ∈ lwG := lwG_in (List.mem_append_left _ (List.mem_of_getElem? (i := 80) (by decide +kernel))) (by decide +kernel)
theorem ml_12_412 : ML RX12 412 yX12_printOver cX12_printOver 4 (some .int) 1 := ⟨tm8 (List.mem_of_getElem? (i := 17) (by decide +kernel)) (by decide +kernel), cw_yX12_printOver, in_12, by decide, by decide +kernel, by decide +kernel⟩
theorem cw_yX12_isZero : Cond.code yX12_isZero cX12_isZero 2 (some .boolean) ∈ lwG := tm8 (List.mem_of_getElem? (i := 23) (by decide +kernel)) (by decide +kernel)
theorem sm_yX12_isZero : Cond.static yX12_isZero ∈ lwG := tm8 (List.mem_of_getElem? (i := 22) (by decide +kernel)) (by decide +kernel)
theorem ml_12_401 : ML RX12 401 yX12_isZero cX12_isZero 2 (some .boolean) 1 := ⟨tm8 (List.mem_of_getElem? (i := 21) (by decide +kernel)) (by decide +kernel), cw_yX12_isZero, in_12, by decide, by decide +kernel, by decide +kernel⟩
theorem cw_yX12_lessen : Cond.code yX12_lessen cX12_lessen 6 none ∈ lwG := tm8 (List.mem_of_getElem? (i := 27) (by decide +kernel)) (by decide +kernel)
theorem im_yX12_lessen : Cond.instanceMethod yX12_lessen ∈ lwG := tm8 (List.mem_of_getElem? (i := 26) (by decide +kernel)) (by decide +kernel)
theorem se_yX12_lessen : Cond.selects yX12_lessen.cls yX12_lessen yX12_lessen ∈ lwG := lwG_in (List.mem_append_left _ (List.mem_of_getElem? (i := 81) (by decide +kernel))) (by decide +kernel)
theorem ml_12_405 : ML RX12 405 yX12_lessen cX12_lessen 6 none 2 := ⟨tm8 (List.mem_of_getElem? (i := 24) (by decide +kernel)) (by decide +kernel), cw_yX12_lessen, in_12, by decide, by decide +kernel, by decide +kernel⟩
theorem cw_yX12_printWhole : Cond.code yX12_printWhole cX12_printWhole 4 none ∈ lwG := tm8 (List.mem_of_getElem? (i := 31) (by decide +kernel)) (by decide +kernel)
theorem im_yX12_printWhole : Cond.instanceMethod yX12_printWhole ∈ lwG := tm8 (List.mem_of_getElem? (i := 30) (by decide +kernel)) (by decide +kernel)
theorem se_yX12_printWhole : Cond.selects yX12_printWhole.cls yX12_printWhole yX12_printWhole ∈ lwG := lwG_in (List.mem_append_left _ (List.mem_of_getElem? (i := 82) (by decide +kernel))) (by decide +kernel)
theorem ml_12_408 : ML RX12 408 yX12_printWhole cX12_printWhole 4 none 1 := ⟨tm8 (List.mem_of_getElem? (i := 28) (by decide +kernel)) (by decide +kernel), cw_yX12_printWhole, in_12, by decide, by decide +kernel, by decide +kernel⟩
theorem cw_yX12_follow : Cond.code yX12_follow cX12_follow 14 none ∈ lwG := tm8 (List.mem_of_getElem? (i := 43) (by decide +kernel)) (by decide +kernel)
theorem im_yX12_follow : Cond.instanceMethod yX12_follow ∈ lwG := tm8 (List.mem_of_getElem? (i := 42) (by decide +kernel)) (by decide +kernel)
theorem se_yX12_follow : Cond.selects yX12_follow.cls yX12_follow yX12_follow ∈ lwG := lwG_in (List.mem_append_left _ (List.mem_of_getElem? (i := 83) (by decide +kernel))) (by decide +kernel)
theorem ml_12_422 : ML RX12 422 yX12_follow cX12_follow 14 none 3 := ⟨tm8 (List.mem_of_getElem? (i := 40) (by decide +kernel)) (by decide +kernel), cw_yX12_follow, in_12, by decide, by decide +kernel, by decide +kernel⟩
theorem cw_yX12_isDouble : Cond.code yX12_isDouble cX12_isDouble 1 (some .boolean) ∈ lwG := tm8 (List.mem_of_getElem? (i := 46) (by decide +kernel)) (by decide +kernel)
theorem sm_yX12_isDouble : Cond.static yX12_isDouble ∈ lwG := tm8 (List.mem_of_getElem? (i := 45) (by decide +kernel)) (by decide +kernel)
theorem ml_12_415 : ML RX12 415 yX12_isDouble cX12_isDouble 1 (some .boolean) 1 := ⟨tm8 (List.mem_of_getElem? (i := 44) (by decide +kernel)) (by decide +kernel), cw_yX12_isDouble, in_12, by decide, by decide +kernel, by decide +kernel⟩
theorem cw_yX12_put : Cond.code yX12_put cX12_put 4 none ∈ lwG := tm8 (List.mem_of_getElem? (i := 50) (by decide +kernel)) (by decide +kernel)
theorem sm_yX12_put : Cond.static yX12_put ∈ lwG := tm8 (List.mem_of_getElem? (i := 49) (by decide +kernel)) (by decide +kernel)
theorem ml_12_426 : ML RX12 426 yX12_put cX12_put 4 none 2 := ⟨tm8 (List.mem_of_getElem? (i := 48) (by decide +kernel)) (by decide +kernel), cw_yX12_put, in_12, by decide, by decide +kernel, by decide +kernel⟩
theorem cw_yX12_power : Cond.code yX12_power cX12_power 4 (some .long) ∈ lwG := tm8 (List.mem_of_getElem? (i := 57) (by decide +kernel)) (by decide +kernel)
theorem sm_yX12_power : Cond.static yX12_power ∈ lwG := tm8 (List.mem_of_getElem? (i := 56) (by decide +kernel)) (by decide +kernel)
theorem ml_12_430 : ML RX12 430 yX12_power cX12_power 4 (some .long) 1 := ⟨tm8 (List.mem_of_getElem? (i := 55) (by decide +kernel)) (by decide +kernel), cw_yX12_power, in_12, by decide, by decide +kernel, by decide +kernel⟩
theorem cw_yX12_addProduct : Cond.code yX12_addProduct cX12_addProduct 7 none ∈ lwG := tm8 (List.mem_of_getElem? (i := 62) (by decide +kernel)) (by decide +kernel)
theorem im_yX12_addProduct : Cond.instanceMethod yX12_addProduct ∈ lwG := tm8 (List.mem_of_getElem? (i := 61) (by decide +kernel)) (by decide +kernel)
theorem se_yX12_addProduct : Cond.selects yX12_addProduct.cls yX12_addProduct yX12_addProduct ∈ lwG := lwG_in (List.mem_append_left _ (List.mem_of_getElem? (i := 84) (by decide +kernel))) (by decide +kernel)
theorem ml_12_434 : ML RX12 434 yX12_addProduct cX12_addProduct 7 none 2 := ⟨tm8 (List.mem_of_getElem? (i := 59) (by decide +kernel)) (by decide +kernel), cw_yX12_addProduct, in_12, by decide, by decide +kernel, by decide +kernel⟩
theorem kc_12_32 : Cond.constant RX12 32 (166400 : Int32) ∈ lwG := tm6 (List.mem_of_getElem? (i := 5) (by decide +kernel)) (by decide +kernel)
theorem kc_12_79 : Cond.constant RX12 79 (434112 : Int32) ∈ lwG := tm6 (List.mem_of_getElem? (i := 6) (by decide +kernel)) (by decide +kernel)
theorem kc_12_83 : Cond.constant RX12 83 (1139544 : Int32) ∈ lwG := tm6 (List.mem_of_getElem? (i := 7) (by decide +kernel)) (by decide +kernel)
theorem kc_12_87 : Cond.constant RX12 87 (54264 : Int32) ∈ lwG := tm6 (List.mem_of_getElem? (i := 8) (by decide +kernel)) (by decide +kernel)
theorem kc_12_305 : Cond.constant RX12 305 (6447474 : Int32) ∈ lwG := tm7 (List.mem_of_getElem? (i := 151) (by decide +kernel)) (by decide +kernel)
theorem kc_12_306 : Cond.constant RX12 306 (7300710 : Int32) ∈ lwG := tm7 (List.mem_of_getElem? (i := 152) (by decide +kernel)) (by decide +kernel)
theorem kc_12_357 : Cond.constantLong RX12 357 (268435455 : Int64) ∈ lwG := tm7 (List.mem_of_getElem? (i := 200) (by decide +kernel)) (by decide +kernel)
theorem kc_12_343 : Cond.constant RX12 343 (16777215 : Int32) ∈ lwG := tm8 (List.mem_of_getElem? (i := 5) (by decide +kernel)) (by decide +kernel)
theorem kc_12_418 : Cond.constantLong RX12 418 (2 : Int64) ∈ lwG := tm8 (List.mem_of_getElem? (i := 47) (by decide +kernel)) (by decide +kernel)
theorem kc_12_420 : Cond.constantLong RX12 420 (36 : Int64) ∈ lwG := tm8 (List.mem_of_getElem? (i := 58) (by decide +kernel)) (by decide +kernel)
