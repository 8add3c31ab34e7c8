theorem fl_1_9 : FL RX1 9 1 0 := ⟨by decide, by decide, uw1, tm1 (List.mem_of_getElem? (i := 39) (by decide +kernel)) (by decide +kernel)⟩
theorem fl_1_15 : FL RX1 15 1 1 := ⟨by decide, by decide, uw1, tm1 (List.mem_of_getElem? (i := 40) (by decide +kernel)) (by decide +kernel)⟩
theorem fl_11_84 : FL RX11 84 1 1 := ⟨by decide, by decide, uw1, tm1 (List.mem_of_getElem? (i := 41) (by decide +kernel)) (by decide +kernel)⟩
theorem fl_4_27 : FL RX4 27 1 1 := ⟨by decide, by decide, uw1, tm1 (List.mem_of_getElem? (i := 42) (by decide +kernel)) (by decide +kernel)⟩
theorem fl_0_9 : FL RX0 9 0 0 := ⟨by decide, by decide, uw0, tm1 (List.mem_of_getElem? (i := 55) (by decide +kernel)) (by decide +kernel)⟩
theorem fl_6_37 : FL RX6 37 0 1 := ⟨by decide, by decide, uw0, tm1 (List.mem_of_getElem? (i := 56) (by decide +kernel)) (by decide +kernel)⟩
theorem fl_0_25 : FL RX0 25 0 1 := ⟨by decide, by decide, uw0, tm1 (List.mem_of_getElem? (i := 57) (by decide +kernel)) (by decide +kernel)⟩
theorem fl_9_85 : FL RX9 85 0 1 := ⟨by decide, by decide, uw0, tm1 (List.mem_of_getElem? (i := 58) (by decide +kernel)) (by decide +kernel)⟩
theorem fl_2_69 : FL RX2 69 0 1 := ⟨by decide, by decide, uw0, tm1 (List.mem_of_getElem? (i := 59) (by decide +kernel)) (by decide +kernel)⟩
theorem fl_11_134 : FL RX11 134 0 1 := ⟨by decide, by decide, uw0, tm1 (List.mem_of_getElem? (i := 60) (by decide +kernel)) (by decide +kernel)⟩
theorem fl_3_11 : FL RX3 11 3 0 := ⟨by decide, by decide, uw3, tm1 (List.mem_of_getElem? (i := 74) (by decide +kernel)) (by decide +kernel)⟩
theorem fl_3_15 : FL RX3 15 3 1 := ⟨by decide, by decide, uw3, tm1 (List.mem_of_getElem? (i := 75) (by decide +kernel)) (by decide +kernel)⟩
theorem fl_3_24 : FL RX3 24 3 2 := ⟨by decide, by decide, uw3, tm1 (List.mem_of_getElem? (i := 76) (by decide +kernel)) (by decide +kernel)⟩
theorem fl_5_15 : FL RX5 15 5 0 := ⟨by decide, by decide, uw5, tm1 (List.mem_of_getElem? (i := 90) (by decide +kernel)) (by decide +kernel)⟩
theorem fl_5_19 : FL RX5 19 5 1 := ⟨by decide, by decide, uw5, tm1 (List.mem_of_getElem? (i := 91) (by decide +kernel)) (by decide +kernel)⟩
theorem fl_5_22 : FL RX5 22 5 2 := ⟨by decide, by decide, uw5, tm1 (List.mem_of_getElem? (i := 92) (by decide +kernel)) (by decide +kernel)⟩
theorem fl_5_40 : FL RX5 40 5 3 := ⟨by decide, by decide, uw5, tm1 (List.mem_of_getElem? (i := 93) (by decide +kernel)) (by decide +kernel)⟩
theorem fl_5_43 : FL RX5 43 5 4 := ⟨by decide, by decide, uw5, tm1 (List.mem_of_getElem? (i := 94) (by decide +kernel)) (by decide +kernel)⟩
theorem fl_5_49 : FL RX5 49 5 5 := ⟨by decide, by decide, uw5, tm1 (List.mem_of_getElem? (i := 95) (by decide +kernel)) (by decide +kernel)⟩
theorem fl_9_88 : FL RX9 88 5 5 := ⟨by decide, by decide, uw5, tm1 (List.mem_of_getElem? (i := 96) (by decide +kernel)) (by decide +kernel)⟩
theorem fl_5_46 : FL RX5 46 5 6 := ⟨by decide, by decide, uw5, tm1 (List.mem_of_getElem? (i := 97) (by decide +kernel)) (by decide +kernel)⟩
theorem fl_9_67 : FL RX9 67 5 6 := ⟨by decide, by decide, uw5, tm1 (List.mem_of_getElem? (i := 98) (by decide +kernel)) (by decide +kernel)⟩
theorem fl_5_25 : FL RX5 25 5 7 := ⟨by decide, by decide, uw5, tm1 (List.mem_of_getElem? (i := 99) (by decide +kernel)) (by decide +kernel)⟩
theorem fl_11_120 : FL RX11 120 5 7 := ⟨by decide, by decide, uw5, tm1 (List.mem_of_getElem? (i := 100) (by decide +kernel)) (by decide +kernel)⟩
theorem fl_5_9 : FL RX5 9 5 8 := ⟨by decide, by decide, uw5, tm1 (List.mem_of_getElem? (i := 101) (by decide +kernel)) (by decide +kernel)⟩
theorem fl_11_123 : FL RX11 123 5 8 := ⟨by decide, by decide, uw5, tm1 (List.mem_of_getElem? (i := 102) (by decide +kernel)) (by decide +kernel)⟩
theorem fl_9_29 : FL RX9 29 9 0 := ⟨by decide, by decide, uw9, tm1 (List.mem_of_getElem? (i := 130) (by decide +kernel)) (by decide +kernel)⟩
theorem fl_9_12 : FL RX9 12 9 1 := ⟨by decide, by decide, uw9, tm1 (List.mem_of_getElem? (i := 131) (by decide +kernel)) (by decide +kernel)⟩
theorem fl_11_113 : FL RX11 113 9 1 := ⟨by decide, by decide, uw9, tm1 (List.mem_of_getElem? (i := 132) (by decide +kernel)) (by decide +kernel)⟩
theorem fl_9_18 : FL RX9 18 9 2 := ⟨by decide, by decide, uw9, tm1 (List.mem_of_getElem? (i := 133) (by decide +kernel)) (by decide +kernel)⟩
theorem fl_6_145 : FL RX6 145 9 2 := ⟨by decide, by decide, uw9, tm1 (List.mem_of_getElem? (i := 134) (by decide +kernel)) (by decide +kernel)⟩
theorem fl_9_22 : FL RX9 22 9 3 := ⟨by decide, by decide, uw9, tm1 (List.mem_of_getElem? (i := 135) (by decide +kernel)) (by decide +kernel)⟩
theorem fl_6_148 : FL RX6 148 9 3 := ⟨by decide, by decide, uw9, tm1 (List.mem_of_getElem? (i := 136) (by decide +kernel)) (by decide +kernel)⟩
theorem fl_9_25 : FL RX9 25 9 4 := ⟨by decide, by decide, uw9, tm1 (List.mem_of_getElem? (i := 137) (by decide +kernel)) (by decide +kernel)⟩
theorem fl_6_155 : FL RX6 155 9 4 := ⟨by decide, by decide, uw9, tm1 (List.mem_of_getElem? (i := 138) (by decide +kernel)) (by decide +kernel)⟩
theorem fl_9_91 : FL RX9 91 9 5 := ⟨by decide, by decide, uw9, tm1 (List.mem_of_getElem? (i := 139) (by decide +kernel)) (by decide +kernel)⟩
theorem fl_6_134 : FL RX6 134 9 5 := ⟨by decide, by decide, uw9, tm1 (List.mem_of_getElem? (i := 140) (by decide +kernel)) (by decide +kernel)⟩
theorem fl_6_26 : FL RX6 26 6 0 := ⟨by decide, by decide, uw6, tm1 (List.mem_of_getElem? (i := 161) (by decide +kernel)) (by decide +kernel)⟩
theorem fl_6_11 : FL RX6 11 6 1 := ⟨by decide, by decide, uw6, tm1 (List.mem_of_getElem? (i := 162) (by decide +kernel)) (by decide +kernel)⟩
theorem fl_6_15 : FL RX6 15 6 2 := ⟨by decide, by decide, uw6, tm1 (List.mem_of_getElem? (i := 163) (by decide +kernel)) (by decide +kernel)⟩
theorem fl_6_19 : FL RX6 19 6 3 := ⟨by decide, by decide, uw6, tm1 (List.mem_of_getElem? (i := 164) (by decide +kernel)) (by decide +kernel)⟩
theorem fl_6_22 : FL RX6 22 6 4 := ⟨by decide, by decide, uw6, tm1 (List.mem_of_getElem? (i := 165) (by decide +kernel)) (by decide +kernel)⟩
theorem fl_6_34 : FL RX6 34 6 5 := ⟨by decide, by decide, uw6, tm1 (List.mem_of_getElem? (i := 166) (by decide +kernel)) (by decide +kernel)⟩
theorem fl_6_42 : FL RX6 42 6 6 := ⟨by decide, by decide, uw6, tm1 (List.mem_of_getElem? (i := 167) (by decide +kernel)) (by decide +kernel)⟩
theorem fl_6_30 : FL RX6 30 6 7 := ⟨by decide, by decide, uw6, tm1 (List.mem_of_getElem? (i := 168) (by decide +kernel)) (by decide +kernel)⟩
theorem fl_11_144 : FL RX11 144 6 7 := ⟨by decide, by decide, uw6, tm1 (List.mem_of_getElem? (i := 169) (by decide +kernel)) (by decide +kernel)⟩
theorem fl_11_189 : FL RX11 189 6 8 := ⟨by decide, by decide, uw6, tm1 (List.mem_of_getElem? (i := 170) (by decide +kernel)) (by decide +kernel)⟩
theorem fl_6_151 : FL RX6 151 6 8 := ⟨by decide, by decide, uw6, tm1 (List.mem_of_getElem? (i := 171) (by decide +kernel)) (by decide +kernel)⟩
theorem fl_2_9 : FL RX2 9 2 0 := ⟨by decide, by decide, uw2, tm1 (List.mem_of_getElem? (i := 198) (by decide +kernel)) (by decide +kernel)⟩
theorem fl_2_28 : FL RX2 28 2 1 := ⟨by decide, by decide, uw2, tm1 (List.mem_of_getElem? (i := 199) (by decide +kernel)) (by decide +kernel)⟩
theorem fl_2_15 : FL RX2 15 2 2 := ⟨by decide, by decide, uw2, tm1 (List.mem_of_getElem? (i := 200) (by decide +kernel)) (by decide +kernel)⟩
theorem fl_2_47 : FL RX2 47 2 3 := ⟨by decide, by decide, uw2, tm1 (List.mem_of_getElem? (i := 201) (by decide +kernel)) (by decide +kernel)⟩
theorem fl_2_40 : FL RX2 40 2 4 := ⟨by decide, by decide, uw2, tm1 (List.mem_of_getElem? (i := 202) (by decide +kernel)) (by decide +kernel)⟩
theorem fl_2_44 : FL RX2 44 2 5 := ⟨by decide, by decide, uw2, tm1 (List.mem_of_getElem? (i := 203) (by decide +kernel)) (by decide +kernel)⟩
theorem fl_2_31 : FL RX2 31 2 6 := ⟨by decide, by decide, uw2, tm1 (List.mem_of_getElem? (i := 204) (by decide +kernel)) (by decide +kernel)⟩
theorem fl_2_34 : FL RX2 34 2 7 := ⟨by decide, by decide, uw2, tm1 (List.mem_of_getElem? (i := 205) (by decide +kernel)) (by decide +kernel)⟩
theorem fl_2_37 : FL RX2 37 2 8 := ⟨by decide, by decide, uw2, tm1 (List.mem_of_getElem? (i := 206) (by decide +kernel)) (by decide +kernel)⟩
theorem fl_2_19 : FL RX2 19 2 9 := ⟨by decide, by decide, uw2, tm1 (List.mem_of_getElem? (i := 207) (by decide +kernel)) (by decide +kernel)⟩
theorem fl_2_60 : FL RX2 60 2 10 := ⟨by decide, by decide, uw2, tm1 (List.mem_of_getElem? (i := 208) (by decide +kernel)) (by decide +kernel)⟩
theorem fl_2_66 : FL RX2 66 2 11 := ⟨by decide, by decide, uw2, tm1 (List.mem_of_getElem? (i := 209) (by decide +kernel)) (by decide +kernel)⟩
theorem fl_2_25 : FL RX2 25 2 12 := ⟨by decide, by decide, uw2, tm1 (List.mem_of_getElem? (i := 210) (by decide +kernel)) (by decide +kernel)⟩
theorem fl_11_206 : FL RX11 206 2 12 := ⟨by decide, by decide, uw2, tm1 (List.mem_of_getElem? (i := 211) (by decide +kernel)) (by decide +kernel)⟩
theorem fl_2_22 : FL RX2 22 2 13 := ⟨by decide, by decide, uw2, tm1 (List.mem_of_getElem? (i := 212) (by decide +kernel)) (by decide +kernel)⟩
theorem fl_11_223 : FL RX11 223 2 13 := ⟨by decide, by decide, uw2, tm1 (List.mem_of_getElem? (i := 213) (by decide +kernel)) (by decide +kernel)⟩
theorem fl_10_9 : FL RX10 9 10 0 := ⟨by decide, by decide, uw10, tm2 (List.mem_of_getElem? (i := 17) (by decide +kernel)) (by decide +kernel)⟩
theorem fl_8_114 : FL RX8 114 10 0 := ⟨by decide, by decide, uw10, tm2 (List.mem_of_getElem? (i := 18) (by decide +kernel)) (by decide +kernel)⟩
theorem fl_8_13 : FL RX8 13 8 0 := ⟨by decide, by decide, uw8, tm2 (List.mem_of_getElem? (i := 35) (by decide +kernel)) (by decide +kernel)⟩
theorem fl_8_17 : FL RX8 17 8 1 := ⟨by decide, by decide, uw8, tm2 (List.mem_of_getElem? (i := 36) (by decide +kernel)) (by decide +kernel)⟩
theorem fl_8_21 : FL RX8 21 8 2 := ⟨by decide, by decide, uw8, tm2 (List.mem_of_getElem? (i := 37) (by decide +kernel)) (by decide +kernel)⟩
theorem fl_8_25 : FL RX8 25 8 3 := ⟨by decide, by decide, uw8, tm2 (List.mem_of_getElem? (i := 38) (by decide +kernel)) (by decide +kernel)⟩
theorem fl_8_31 : FL RX8 31 8 4 := ⟨by decide, by decide, uw8, tm2 (List.mem_of_getElem? (i := 39) (by decide +kernel)) (by decide +kernel)⟩
theorem fl_8_35 : FL RX8 35 8 5 := ⟨by decide, by decide, uw8, tm2 (List.mem_of_getElem? (i := 40) (by decide +kernel)) (by decide +kernel)⟩
theorem fl_8_38 : FL RX8 38 8 6 := ⟨by decide, by decide, uw8, tm2 (List.mem_of_getElem? (i := 41) (by decide +kernel)) (by decide +kernel)⟩
theorem fl_8_121 : FL RX8 121 8 7 := ⟨by decide, by decide, uw8, tm2 (List.mem_of_getElem? (i := 42) (by decide +kernel)) (by decide +kernel)⟩
theorem fl_8_147 : FL RX8 147 8 8 := ⟨by decide, by decide, uw8, tm2 (List.mem_of_getElem? (i := 43) (by decide +kernel)) (by decide +kernel)⟩
theorem fl_8_143 : FL RX8 143 8 9 := ⟨by decide, by decide, uw8, tm2 (List.mem_of_getElem? (i := 44) (by decide +kernel)) (by decide +kernel)⟩
theorem fl_4_23 : FL RX4 23 4 0 := ⟨by decide, by decide, uw4, tm2 (List.mem_of_getElem? (i := 74) (by decide +kernel)) (by decide +kernel)⟩
theorem fl_4_10 : FL RX4 10 4 1 := ⟨by decide, by decide, uw4, tm2 (List.mem_of_getElem? (i := 75) (by decide +kernel)) (by decide +kernel)⟩
theorem fl_4_16 : FL RX4 16 4 2 := ⟨by decide, by decide, uw4, tm2 (List.mem_of_getElem? (i := 76) (by decide +kernel)) (by decide +kernel)⟩
theorem fl_4_20 : FL RX4 20 4 3 := ⟨by decide, by decide, uw4, tm2 (List.mem_of_getElem? (i := 77) (by decide +kernel)) (by decide +kernel)⟩
theorem fl_11_252 : FL RX11 252 4 3 := ⟨by decide, by decide, uw4, tm2 (List.mem_of_getElem? (i := 78) (by decide +kernel)) (by decide +kernel)⟩
theorem fl_11_10 : FL RX11 10 11 0 := ⟨by decide, by decide, uw11, tm2 (List.mem_of_getElem? (i := 111) (by decide +kernel)) (by decide +kernel)⟩
theorem fl_11_16 : FL RX11 16 11 1 := ⟨by decide, by decide, uw11, tm2 (List.mem_of_getElem? (i := 112) (by decide +kernel)) (by decide +kernel)⟩
theorem fl_11_22 : FL RX11 22 11 2 := ⟨by decide, by decide, uw11, tm2 (List.mem_of_getElem? (i := 113) (by decide +kernel)) (by decide +kernel)⟩
theorem fl_11_29 : FL RX11 29 11 3 := ⟨by decide, by decide, uw11, tm2 (List.mem_of_getElem? (i := 114) (by decide +kernel)) (by decide +kernel)⟩
theorem fl_11_38 : FL RX11 38 11 4 := ⟨by decide, by decide, uw11, tm2 (List.mem_of_getElem? (i := 115) (by decide +kernel)) (by decide +kernel)⟩
theorem fl_11_47 : FL RX11 47 11 5 := ⟨by decide, by decide, uw11, tm2 (List.mem_of_getElem? (i := 116) (by decide +kernel)) (by decide +kernel)⟩
theorem fl_11_56 : FL RX11 56 11 6 := ⟨by decide, by decide, uw11, tm2 (List.mem_of_getElem? (i := 117) (by decide +kernel)) (by decide +kernel)⟩
theorem fl_11_63 : FL RX11 63 11 7 := ⟨by decide, by decide, uw11, tm2 (List.mem_of_getElem? (i := 118) (by decide +kernel)) (by decide +kernel)⟩
theorem fl_11_70 : FL RX11 70 11 8 := ⟨by decide, by decide, uw11, tm2 (List.mem_of_getElem? (i := 119) (by decide +kernel)) (by decide +kernel)⟩
theorem fl_11_77 : FL RX11 77 11 9 := ⟨by decide, by decide, uw11, tm2 (List.mem_of_getElem? (i := 120) (by decide +kernel)) (by decide +kernel)⟩
theorem fl_11_146 : FL RX11 146 11 10 := ⟨by decide, by decide, uw11, tm2 (List.mem_of_getElem? (i := 121) (by decide +kernel)) (by decide +kernel)⟩
theorem fl_7_13 : FL RX7 13 7 0 := ⟨by decide, by decide, uw7, tm5 (List.mem_of_getElem? (i := 140) (by decide +kernel)) (by decide +kernel)⟩
theorem fl_8_82 : FL RX8 82 7 0 := ⟨by decide, by decide, uw7, tm5 (List.mem_of_getElem? (i := 141) (by decide +kernel)) (by decide +kernel)⟩
theorem cw_yX5_init : Cond.code yX5_init cX5_init 2 none ∈ lwG := tm1 (List.mem_of_getElem? (i := 88) (by decide +kernel)) (by decide +kernel)
theorem im_yX5_init : Cond.instanceMethod yX5_init ∈ lwG := tm1 (List.mem_of_getElem? (i := 87) (by decide +kernel)) (by decide +kernel)
theorem ml_11_35 : ML RX11 35 yX5_init cX5_init 2 none 1 := ⟨tm1 (List.mem_of_getElem? (i := 86) (by decide +kernel)) (by decide +kernel), cw_yX5_init, in_5, by decide, by decide +kernel, by decide +kernel⟩
theorem cw_yX9_init : Cond.code yX9_init cX9_init 2 none ∈ lwG := tm1 (List.mem_of_getElem? (i := 126) (by decide +kernel)) (by decide +kernel)
theorem im_yX9_init : Cond.instanceMethod yX9_init ∈ lwG := tm1 (List.mem_of_getElem? (i := 125) (by decide +kernel)) (by decide +kernel)
theorem ml_11_44 : ML RX11 44 yX9_init cX9_init 2 none 1 := ⟨tm1 (List.mem_of_getElem? (i := 124) (by decide +kernel)) (by decide +kernel), cw_yX9_init, in_9, by decide, by decide +kernel, by decide +kernel⟩
theorem cw_yX6_init : Cond.code yX6_init cX6_init 2 none ∈ lwG := tm1 (List.mem_of_getElem? (i := 159) (by decide +kernel)) (by decide +kernel)
theorem im_yX6_init : Cond.instanceMethod yX6_init ∈ lwG := tm1 (List.mem_of_getElem? (i := 158) (by decide +kernel)) (by decide +kernel)
theorem ml_11_53 : ML RX11 53 yX6_init cX6_init 2 none 1 := ⟨tm1 (List.mem_of_getElem? (i := 157) (by decide +kernel)) (by decide +kernel), cw_yX6_init, in_6, by decide, by decide +kernel, by decide +kernel⟩
theorem cw_yX8_init : Cond.code yX8_init cX8_init 3 none ∈ lwG := tm2 (List.mem_of_getElem? (i := 7) (by decide +kernel)) (by decide +kernel)
theorem im_yX8_init : Cond.instanceMethod yX8_init ∈ lwG := tm2 (List.mem_of_getElem? (i := 6) (by decide +kernel)) (by decide +kernel)
theorem ml_11_69 : ML RX11 69 yX8_init cX8_init 3 none 0 := ⟨tm2 (List.mem_of_getElem? (i := 5) (by decide +kernel)) (by decide +kernel), cw_yX8_init, in_8, by decide, by decide +kernel, by decide +kernel⟩
theorem cw_yX10_set : Cond.code yX10_set cX10_set 3 none ∈ lwG := tm2 (List.mem_of_getElem? (i := 26) (by decide +kernel)) (by decide +kernel)
theorem im_yX10_set : Cond.instanceMethod yX10_set ∈ lwG := tm2 (List.mem_of_getElem? (i := 24) (by decide +kernel)) (by decide +kernel)
theorem se_yX10_set : Cond.selects yX10_set.cls yX10_set yX10_set ∈ lwG := tm2 (List.mem_of_getElem? (i := 25) (by decide +kernel)) (by decide +kernel)
theorem ml_8_43 : ML RX8 43 yX10_set cX10_set 3 none 1 := ⟨tm2 (List.mem_of_getElem? (i := 23) (by decide +kernel)) (by decide +kernel), cw_yX10_set, in_10, by decide, by decide +kernel, by decide +kernel⟩
theorem cw_yJ7_fill_d0a16 : Cond.code yJ7_fill_d0a16 cJ7_fill_d0a16 5 none ∈ lwG := tm2 (List.mem_of_getElem? (i := 29) (by decide +kernel)) (by decide +kernel)
theorem sm_yJ7_fill_d0a16 : Cond.static yJ7_fill_d0a16 ∈ lwG := tm2 (List.mem_of_getElem? (i := 28) (by decide +kernel)) (by decide +kernel)
theorem ml_10_13 : ML RX10 13 yJ7_fill_d0a16 cJ7_fill_d0a16 5 none 2 := ⟨tm2 (List.mem_of_getElem? (i := 27) (by decide +kernel)) (by decide +kernel), cw_yJ7_fill_d0a16, in_J7, by decide, by decide +kernel, by decide +kernel⟩
theorem cw_yX10_multiply : Cond.code yX10_multiply cX10_multiply 5 none ∈ lwG := tm2 (List.mem_of_getElem? (i := 34) (by decide +kernel)) (by decide +kernel)
theorem im_yX10_multiply : Cond.instanceMethod yX10_multiply ∈ lwG := tm2 (List.mem_of_getElem? (i := 32) (by decide +kernel)) (by decide +kernel)
theorem se_yX10_multiply : Cond.selects yX10_multiply.cls yX10_multiply yX10_multiply ∈ lwG := tm2 (List.mem_of_getElem? (i := 33) (by decide +kernel)) (by decide +kernel)
theorem ml_8_47 : ML RX8 47 yX10_multiply cX10_multiply 5 none 1 := ⟨tm2 (List.mem_of_getElem? (i := 31) (by decide +kernel)) (by decide +kernel), cw_yX10_multiply, in_10, by decide, by decide +kernel, by decide +kernel⟩
theorem cw_yX4_init : Cond.code yX4_init cX4_init 2 none ∈ lwG := tm2 (List.mem_of_getElem? (i := 70) (by decide +kernel)) (by decide +kernel)
theorem im_yX4_init : Cond.instanceMethod yX4_init ∈ lwG := tm2 (List.mem_of_getElem? (i := 69) (by decide +kernel)) (by decide +kernel)
theorem ml_11_76 : ML RX11 76 yX4_init cX4_init 2 none 1 := ⟨tm2 (List.mem_of_getElem? (i := 68) (by decide +kernel)) (by decide +kernel), cw_yX4_init, in_4, by decide, by decide +kernel, by decide +kernel⟩
theorem cw_yX0_setUp : Cond.code yX0_setUp cX0_setUp 2 none ∈ lwG := tm2 (List.mem_of_getElem? (i := 91) (by decide +kernel)) (by decide +kernel)
theorem im_yX0_setUp : Cond.instanceMethod yX0_setUp ∈ lwG := tm2 (List.mem_of_getElem? (i := 89) (by decide +kernel)) (by decide +kernel)
theorem se_yX0_setUp : Cond.selects yX0_setUp.cls yX0_setUp yX0_setUp ∈ lwG := tm2 (List.mem_of_getElem? (i := 90) (by decide +kernel)) (by decide +kernel)
theorem ml_11_81 : ML RX11 81 yX0_setUp cX0_setUp 2 none 0 := ⟨tm2 (List.mem_of_getElem? (i := 88) (by decide +kernel)) (by decide +kernel), cw_yX0_setUp, in_0, by decide, by decide +kernel, by decide +kernel⟩
theorem cw_yX0_clear : Cond.code yX0_clear cX0_clear 1 none ∈ lwG := tm2 (List.mem_of_getElem? (i := 95) (by decide +kernel)) (by decide +kernel)
theorem im_yX0_clear : Cond.instanceMethod yX0_clear ∈ lwG := tm2 (List.mem_of_getElem? (i := 93) (by decide +kernel)) (by decide +kernel)
theorem se_yX0_clear : Cond.selects yX0_clear.cls yX0_clear yX0_clear ∈ lwG := tm2 (List.mem_of_getElem? (i := 94) (by decide +kernel)) (by decide +kernel)
theorem ml_0_29 : ML RX0 29 yX0_clear cX0_clear 1 none 0 := ⟨tm2 (List.mem_of_getElem? (i := 92) (by decide +kernel)) (by decide +kernel), cw_yX0_clear, in_0, by decide, by decide +kernel, by decide +kernel⟩
theorem cw_yJ7_fill_53178 : Cond.code yJ7_fill_53178 cJ7_fill_53178 4 none ∈ lwG := tm2 (List.mem_of_getElem? (i := 98) (by decide +kernel)) (by decide +kernel)
theorem sm_yJ7_fill_53178 : Cond.static yJ7_fill_53178 ∈ lwG := tm2 (List.mem_of_getElem? (i := 97) (by decide +kernel)) (by decide +kernel)
theorem ml_0_15 : ML RX0 15 yJ7_fill_53178 cJ7_fill_53178 4 none 2 := ⟨tm2 (List.mem_of_getElem? (i := 96) (by decide +kernel)) (by decide +kernel), cw_yJ7_fill_53178, in_J7, by decide, by decide +kernel, by decide +kernel⟩
theorem cw_yX0_put : Cond.code yX0_put cX0_put 4 none ∈ lwG := tm2 (List.mem_of_getElem? (i := 102) (by decide +kernel)) (by decide +kernel)
theorem im_yX0_put : Cond.instanceMethod yX0_put ∈ lwG := tm2 (List.mem_of_getElem? (i := 100) (by decide +kernel)) (by decide +kernel)
theorem se_yX0_put : Cond.selects yX0_put.cls yX0_put yX0_put ∈ lwG := tm2 (List.mem_of_getElem? (i := 101) (by decide +kernel)) (by decide +kernel)
theorem ml_0_21 : ML RX0 21 yX0_put cX0_put 4 none 3 := ⟨tm2 (List.mem_of_getElem? (i := 99) (by decide +kernel)) (by decide +kernel), cw_yX0_put, in_0, by decide, by decide +kernel, by decide +kernel⟩
theorem cw_yX0_takeFromOff : Cond.code yX0_takeFromOff cX0_takeFromOff 4 none ∈ lwG := tm2 (List.mem_of_getElem? (i := 110) (by decide +kernel)) (by decide +kernel)
theorem im_yX0_takeFromOff : Cond.instanceMethod yX0_takeFromOff ∈ lwG := tm2 (List.mem_of_getElem? (i := 108) (by decide +kernel)) (by decide +kernel)
theorem se_yX0_takeFromOff : Cond.selects yX0_takeFromOff.cls yX0_takeFromOff yX0_takeFromOff ∈ lwG := tm2 (List.mem_of_getElem? (i := 109) (by decide +kernel)) (by decide +kernel)
theorem ml_0_38 : ML RX0 38 yX0_takeFromOff cX0_takeFromOff 4 none 3 := ⟨tm2 (List.mem_of_getElem? (i := 107) (by decide +kernel)) (by decide +kernel), cw_yX0_takeFromOff, in_0, by decide, by decide +kernel, by decide +kernel⟩
theorem cw_yX1_addNumber : Cond.code yX1_addNumber cX1_addNumber 2 none ∈ lwG := tm2 (List.mem_of_getElem? (i := 152) (by decide +kernel)) (by decide +kernel)
theorem im_yX1_addNumber : Cond.instanceMethod yX1_addNumber ∈ lwG := tm2 (List.mem_of_getElem? (i := 150) (by decide +kernel)) (by decide +kernel)
theorem se_yX1_addNumber : Cond.selects yX1_addNumber.cls yX1_addNumber yX1_addNumber ∈ lwG := tm2 (List.mem_of_getElem? (i := 151) (by decide +kernel)) (by decide +kernel)
theorem ml_11_88 : ML RX11 88 yX1_addNumber cX1_addNumber 2 none 1 := ⟨tm2 (List.mem_of_getElem? (i := 149) (by decide +kernel)) (by decide +kernel), cw_yX1_addNumber, in_1, by decide, by decide +kernel, by decide +kernel⟩
theorem cw_yX1_add : Cond.code yX1_add cX1_add 2 none ∈ lwG := tm2 (List.mem_of_getElem? (i := 156) (by decide +kernel)) (by decide +kernel)
theorem im_yX1_add : Cond.instanceMethod yX1_add ∈ lwG := tm2 (List.mem_of_getElem? (i := 154) (by decide +kernel)) (by decide +kernel)
theorem se_yX1_add : Cond.selects yX1_add.cls yX1_add yX1_add ∈ lwG := tm2 (List.mem_of_getElem? (i := 155) (by decide +kernel)) (by decide +kernel)
theorem ml_1_19 : ML RX1 19 yX1_add cX1_add 2 none 1 := ⟨tm2 (List.mem_of_getElem? (i := 153) (by decide +kernel)) (by decide +kernel), cw_yX1_add, in_1, by decide, by decide +kernel, by decide +kernel⟩
theorem cw_yX2_isUnderWay : Cond.code yX2_isUnderWay cX2_isUnderWay 1 (some .boolean) ∈ lwG := tm2 (List.mem_of_getElem? (i := 168) (by decide +kernel)) (by decide +kernel)
theorem im_yX2_isUnderWay : Cond.instanceMethod yX2_isUnderWay ∈ lwG := tm2 (List.mem_of_getElem? (i := 166) (by decide +kernel)) (by decide +kernel)
theorem se_yX2_isUnderWay : Cond.selects yX2_isUnderWay.cls yX2_isUnderWay yX2_isUnderWay ∈ lwG := tm2 (List.mem_of_getElem? (i := 167) (by decide +kernel)) (by decide +kernel)
theorem ml_11_95 : ML RX11 95 yX2_isUnderWay cX2_isUnderWay 1 (some .boolean) 0 := ⟨tm2 (List.mem_of_getElem? (i := 165) (by decide +kernel)) (by decide +kernel), cw_yX2_isUnderWay, in_2, by decide, by decide +kernel, by decide +kernel⟩
theorem cw_yX3_giveBack : Cond.code yX3_giveBack cX3_giveBack 2 (some .boolean) ∈ lwG := tm2 (List.mem_of_getElem? (i := 172) (by decide +kernel)) (by decide +kernel)
theorem im_yX3_giveBack : Cond.instanceMethod yX3_giveBack ∈ lwG := tm2 (List.mem_of_getElem? (i := 170) (by decide +kernel)) (by decide +kernel)
theorem se_yX3_giveBack : Cond.selects yX3_giveBack.cls yX3_giveBack yX3_giveBack ∈ lwG := tm2 (List.mem_of_getElem? (i := 171) (by decide +kernel)) (by decide +kernel)
theorem ml_11_193 : ML RX11 193 yX3_giveBack cX3_giveBack 2 (some .boolean) 1 := ⟨tm2 (List.mem_of_getElem? (i := 169) (by decide +kernel)) (by decide +kernel), cw_yX3_giveBack, in_3, by decide, by decide +kernel, by decide +kernel⟩
theorem cw_yX0_copyFrom : Cond.code yX0_copyFrom cX0_copyFrom 2 none ∈ lwG := tm2 (List.mem_of_getElem? (i := 176) (by decide +kernel)) (by decide +kernel)
theorem im_yX0_copyFrom : Cond.instanceMethod yX0_copyFrom ∈ lwG := tm2 (List.mem_of_getElem? (i := 174) (by decide +kernel)) (by decide +kernel)
theorem se_yX0_copyFrom : Cond.selects yX0_copyFrom.cls yX0_copyFrom yX0_copyFrom ∈ lwG := tm2 (List.mem_of_getElem? (i := 175) (by decide +kernel)) (by decide +kernel)
theorem ml_3_20 : ML RX3 20 yX0_copyFrom cX0_copyFrom 2 none 1 := ⟨tm2 (List.mem_of_getElem? (i := 173) (by decide +kernel)) (by decide +kernel), cw_yX0_copyFrom, in_0, by decide, by decide +kernel, by decide +kernel⟩
theorem cw_yX6_forget : Cond.code yX6_forget cX6_forget 1 none ∈ lwG := tm2 (List.mem_of_getElem? (i := 183) (by decide +kernel)) (by decide +kernel)
theorem im_yX6_forget : Cond.instanceMethod yX6_forget ∈ lwG := tm2 (List.mem_of_getElem? (i := 181) (by decide +kernel)) (by decide +kernel)
theorem se_yX6_forget : Cond.selects yX6_forget.cls yX6_forget yX6_forget ∈ lwG := tm2 (List.mem_of_getElem? (i := 182) (by decide +kernel)) (by decide +kernel)
theorem ml_11_117 : ML RX11 117 yX6_forget cX6_forget 1 none 0 := ⟨tm2 (List.mem_of_getElem? (i := 180) (by decide +kernel)) (by decide +kernel), cw_yX6_forget, in_6, by decide, by decide +kernel, by decide +kernel⟩
theorem cw_yX1_at : Cond.code yX1_at cX1_at 2 (some .int) ∈ lwG := tm2 (List.mem_of_getElem? (i := 191) (by decide +kernel)) (by decide +kernel)
theorem im_yX1_at : Cond.instanceMethod yX1_at ∈ lwG := tm2 (List.mem_of_getElem? (i := 189) (by decide +kernel)) (by decide +kernel)
theorem se_yX1_at : Cond.selects yX1_at.cls yX1_at yX1_at ∈ lwG := tm2 (List.mem_of_getElem? (i := 190) (by decide +kernel)) (by decide +kernel)
theorem ml_11_292 : ML RX11 292 yX1_at cX1_at 2 (some .int) 1 := ⟨tm2 (List.mem_of_getElem? (i := 188) (by decide +kernel)) (by decide +kernel), cw_yX1_at, in_1, by decide, by decide +kernel, by decide +kernel⟩
theorem cw_yX11_checkLength : Cond.code yX11_checkLength cX11_checkLength 2 none ∈ lwG := tm2 (List.mem_of_getElem? (i := 204) (by decide +kernel)) (by decide +kernel)
theorem im_yX11_checkLength : Cond.instanceMethod yX11_checkLength ∈ lwG := tm2 (List.mem_of_getElem? (i := 203) (by decide +kernel)) (by decide +kernel)
theorem se_yX11_checkLength : Cond.selects yX11_checkLength.cls yX11_checkLength yX11_checkLength ∈ lwG := lwG_in (List.mem_append_left _ (List.mem_of_getElem? (i := 0) (by decide +kernel))) (by decide +kernel)
theorem ml_11_92 : ML RX11 92 yX11_checkLength cX11_checkLength 2 none 1 := ⟨tm2 (List.mem_of_getElem? (i := 201) (by decide +kernel)) (by decide +kernel), cw_yX11_checkLength, in_11, by decide, by decide +kernel, by decide +kernel⟩
theorem cw_yX9_parsePosition : Cond.code yX9_parsePosition cX9_parsePosition 2 (some .boolean) ∈ lwG := tm3 (List.mem_of_getElem? (i := 54) (by decide +kernel)) (by decide +kernel)
theorem im_yX9_parsePosition : Cond.instanceMethod yX9_parsePosition ∈ lwG := tm3 (List.mem_of_getElem? (i := 52) (by decide +kernel)) (by decide +kernel)
theorem se_yX9_parsePosition : Cond.selects yX9_parsePosition.cls yX9_parsePosition yX9_parsePosition ∈ lwG := tm3 (List.mem_of_getElem? (i := 53) (by decide +kernel)) (by decide +kernel)
theorem ml_11_106 : ML RX11 106 yX9_parsePosition cX9_parsePosition 2 (some .boolean) 1 := ⟨tm3 (List.mem_of_getElem? (i := 51) (by decide +kernel)) (by decide +kernel), cw_yX9_parsePosition, in_9, by decide, by decide +kernel, by decide +kernel⟩
theorem cw_yX5_open : Cond.code yX5_open cX5_open 2 none ∈ lwG := tm3 (List.mem_of_getElem? (i := 58) (by decide +kernel)) (by decide +kernel)
theorem im_yX5_open : Cond.instanceMethod yX5_open ∈ lwG := tm3 (List.mem_of_getElem? (i := 56) (by decide +kernel)) (by decide +kernel)
theorem se_yX5_open : Cond.selects yX5_open.cls yX5_open yX5_open ∈ lwG := tm3 (List.mem_of_getElem? (i := 57) (by decide +kernel)) (by decide +kernel)
theorem ml_9_33 : ML RX9 33 yX5_open cX5_open 2 none 1 := ⟨tm3 (List.mem_of_getElem? (i := 55) (by decide +kernel)) (by decide +kernel), cw_yX5_open, in_5, by decide, by decide +kernel, by decide +kernel⟩
theorem cw_yX5_read : Cond.code yX5_read cX5_read 1 none ∈ lwG := tm3 (List.mem_of_getElem? (i := 62) (by decide +kernel)) (by decide +kernel)
theorem im_yX5_read : Cond.instanceMethod yX5_read ∈ lwG := tm3 (List.mem_of_getElem? (i := 60) (by decide +kernel)) (by decide +kernel)
theorem se_yX5_read : Cond.selects yX5_read.cls yX5_read yX5_read ∈ lwG := tm3 (List.mem_of_getElem? (i := 61) (by decide +kernel)) (by decide +kernel)
theorem ml_5_28 : ML RX5 28 yX5_read cX5_read 1 none 0 := ⟨tm3 (List.mem_of_getElem? (i := 59) (by decide +kernel)) (by decide +kernel), cw_yX5_read, in_5, by decide, by decide +kernel, by decide +kernel⟩
theorem ml_5_31 : ML RX5 31 yX1_at cX1_at 2 (some .int) 1 := ⟨tm3 (List.mem_of_getElem? (i := 63) (by decide +kernel)) (by decide +kernel), cw_yX1_at, in_1, by decide, by decide +kernel, by decide +kernel⟩
theorem cw_yX5_isBlank : Cond.code yX5_isBlank cX5_isBlank 1 (some .boolean) ∈ lwG := tm3 (List.mem_of_getElem? (i := 66) (by decide +kernel)) (by decide +kernel)
theorem sm_yX5_isBlank : Cond.static yX5_isBlank ∈ lwG := tm3 (List.mem_of_getElem? (i := 65) (by decide +kernel)) (by decide +kernel)
theorem ml_5_36 : ML RX5 36 yX5_isBlank cX5_isBlank 1 (some .boolean) 1 := ⟨tm3 (List.mem_of_getElem? (i := 64) (by decide +kernel)) (by decide +kernel), cw_yX5_isBlank, in_5, by decide, by decide +kernel, by decide +kernel⟩
theorem cw_yX5_isDigit : Cond.code yX5_isDigit cX5_isDigit 1 (some .boolean) ∈ lwG := tm3 (List.mem_of_getElem? (i := 69) (by decide +kernel)) (by decide +kernel)
theorem sm_yX5_isDigit : Cond.static yX5_isDigit ∈ lwG := tm3 (List.mem_of_getElem? (i := 68) (by decide +kernel)) (by decide +kernel)
theorem ml_5_52 : ML RX5 52 yX5_isDigit cX5_isDigit 1 (some .boolean) 1 := ⟨tm3 (List.mem_of_getElem? (i := 67) (by decide +kernel)) (by decide +kernel), cw_yX5_isDigit, in_5, by decide, by decide +kernel, by decide +kernel⟩
theorem cw_yX5_readNumber : Cond.code yX5_readNumber cX5_readNumber 1 none ∈ lwG := tm3 (List.mem_of_getElem? (i := 73) (by decide +kernel)) (by decide +kernel)
theorem im_yX5_readNumber : Cond.instanceMethod yX5_readNumber ∈ lwG := tm3 (List.mem_of_getElem? (i := 72) (by decide +kernel)) (by decide +kernel)
theorem se_yX5_readNumber : Cond.selects yX5_readNumber.cls yX5_readNumber yX5_readNumber ∈ lwG := lwG_in (List.mem_append_left _ (List.mem_of_getElem? (i := 2) (by decide +kernel))) (by decide +kernel)
theorem ml_5_55 : ML RX5 55 yX5_readNumber cX5_readNumber 1 none 0 := ⟨tm3 (List.mem_of_getElem? (i := 70) (by decide +kernel)) (by decide +kernel), cw_yX5_readNumber, in_5, by decide, by decide +kernel, by decide +kernel⟩
theorem cw_yX5_isLetter : Cond.code yX5_isLetter cX5_isLetter 1 (some .boolean) ∈ lwG := tm3 (List.mem_of_getElem? (i := 76) (by decide +kernel)) (by decide +kernel)
theorem sm_yX5_isLetter : Cond.static yX5_isLetter ∈ lwG := tm3 (List.mem_of_getElem? (i := 75) (by decide +kernel)) (by decide +kernel)
theorem ml_5_58 : ML RX5 58 yX5_isLetter cX5_isLetter 1 (some .boolean) 1 := ⟨tm3 (List.mem_of_getElem? (i := 74) (by decide +kernel)) (by decide +kernel), cw_yX5_isLetter, in_5, by decide, by decide +kernel, by decide +kernel⟩
theorem cw_yX5_readWord : Cond.code yX5_readWord cX5_readWord 1 none ∈ lwG := tm3 (List.mem_of_getElem? (i := 80) (by decide +kernel)) (by decide +kernel)
theorem im_yX5_readWord : Cond.instanceMethod yX5_readWord ∈ lwG := tm3 (List.mem_of_getElem? (i := 79) (by decide +kernel)) (by decide +kernel)
theorem se_yX5_readWord : Cond.selects yX5_readWord.cls yX5_readWord yX5_readWord ∈ lwG := lwG_in (List.mem_append_left _ (List.mem_of_getElem? (i := 3) (by decide +kernel))) (by decide +kernel)
theorem ml_5_61 : ML RX5 61 yX5_readWord cX5_readWord 1 none 0 := ⟨tm3 (List.mem_of_getElem? (i := 77) (by decide +kernel)) (by decide +kernel), cw_yX5_readWord, in_5, by decide, by decide +kernel, by decide +kernel⟩
theorem cw_yX5_readSign : Cond.code yX5_readSign cX5_readSign 1 none ∈ lwG := tm3 (List.mem_of_getElem? (i := 84) (by decide +kernel)) (by decide +kernel)
theorem im_yX5_readSign : Cond.instanceMethod yX5_readSign ∈ lwG := tm3 (List.mem_of_getElem? (i := 83) (by decide +kernel)) (by decide +kernel)
theorem se_yX5_readSign : Cond.selects yX5_readSign.cls yX5_readSign yX5_readSign ∈ lwG := lwG_in (List.mem_append_left _ (List.mem_of_getElem? (i := 4) (by decide +kernel))) (by decide +kernel)
theorem ml_5_64 : ML RX5 64 yX5_readSign cX5_readSign 1 none 0 := ⟨tm3 (List.mem_of_getElem? (i := 81) (by decide +kernel)) (by decide +kernel), cw_yX5_readSign, in_5, by decide, by decide +kernel, by decide +kernel⟩
theorem ml_9_39 : ML RX9 39 yX0_clear cX0_clear 1 none 0 := ⟨tm3 (List.mem_of_getElem? (i := 85) (by decide +kernel)) (by decide +kernel), cw_yX0_clear, in_0, by decide, by decide +kernel, by decide +kernel⟩
theorem cw_yX9_readMen : Cond.code yX9_readMen cX9_readMen 3 (some .boolean) ∈ lwG := tm3 (List.mem_of_getElem? (i := 89) (by decide +kernel)) (by decide +kernel)
theorem im_yX9_readMen : Cond.instanceMethod yX9_readMen ∈ lwG := tm3 (List.mem_of_getElem? (i := 88) (by decide +kernel)) (by decide +kernel)
theorem se_yX9_readMen : Cond.selects yX9_readMen.cls yX9_readMen yX9_readMen ∈ lwG := lwG_in (List.mem_append_left _ (List.mem_of_getElem? (i := 5) (by decide +kernel))) (by decide +kernel)
theorem ml_9_42 : ML RX9 42 yX9_readMen cX9_readMen 3 (some .boolean) 1 := ⟨tm3 (List.mem_of_getElem? (i := 86) (by decide +kernel)) (by decide +kernel), cw_yX9_readMen, in_9, by decide, by decide +kernel, by decide +kernel⟩
theorem cw_yX5_isSign : Cond.code yX5_isSign cX5_isSign 2 (some .boolean) ∈ lwG := tm3 (List.mem_of_getElem? (i := 93) (by decide +kernel)) (by decide +kernel)
theorem im_yX5_isSign : Cond.instanceMethod yX5_isSign ∈ lwG := tm3 (List.mem_of_getElem? (i := 91) (by decide +kernel)) (by decide +kernel)
theorem se_yX5_isSign : Cond.selects yX5_isSign.cls yX5_isSign yX5_isSign ∈ lwG := tm3 (List.mem_of_getElem? (i := 92) (by decide +kernel)) (by decide +kernel)
theorem ml_9_54 : ML RX9 54 yX5_isSign cX5_isSign 2 (some .boolean) 1 := ⟨tm3 (List.mem_of_getElem? (i := 90) (by decide +kernel)) (by decide +kernel), cw_yX5_isSign, in_5, by decide, by decide +kernel, by decide +kernel⟩
theorem cw_yX9_readStack : Cond.code yX9_readStack cX9_readStack 3 (some .boolean) ∈ lwG := tm3 (List.mem_of_getElem? (i := 97) (by decide +kernel)) (by decide +kernel)
theorem im_yX9_readStack : Cond.instanceMethod yX9_readStack ∈ lwG := tm3 (List.mem_of_getElem? (i := 96) (by decide +kernel)) (by decide +kernel)
theorem se_yX9_readStack : Cond.selects yX9_readStack.cls yX9_readStack yX9_readStack ∈ lwG := lwG_in (List.mem_append_left _ (List.mem_of_getElem? (i := 6) (by decide +kernel))) (by decide +kernel)
theorem ml_9_57 : ML RX9 57 yX9_readStack cX9_readStack 3 (some .boolean) 1 := ⟨tm3 (List.mem_of_getElem? (i := 94) (by decide +kernel)) (by decide +kernel), cw_yX9_readStack, in_9, by decide, by decide +kernel, by decide +kernel⟩
theorem cw_yX5_isNumber : Cond.code yX5_isNumber cX5_isNumber 3 (some .boolean) ∈ lwG := tm3 (List.mem_of_getElem? (i := 101) (by decide +kernel)) (by decide +kernel)
theorem im_yX5_isNumber : Cond.instanceMethod yX5_isNumber ∈ lwG := tm3 (List.mem_of_getElem? (i := 99) (by decide +kernel)) (by decide +kernel)
theorem se_yX5_isNumber : Cond.selects yX5_isNumber.cls yX5_isNumber yX5_isNumber ∈ lwG := tm3 (List.mem_of_getElem? (i := 100) (by decide +kernel)) (by decide +kernel)
theorem ml_9_63 : ML RX9 63 yX5_isNumber cX5_isNumber 3 (some .boolean) 2 := ⟨tm3 (List.mem_of_getElem? (i := 98) (by decide +kernel)) (by decide +kernel), cw_yX5_isNumber, in_5, by decide, by decide +kernel, by decide +kernel⟩
theorem cw_yX5_fail : Cond.code yX5_fail cX5_fail 2 (some .boolean) ∈ lwG := tm3 (List.mem_of_getElem? (i := 105) (by decide +kernel)) (by decide +kernel)
theorem im_yX5_fail : Cond.instanceMethod yX5_fail ∈ lwG := tm3 (List.mem_of_getElem? (i := 103) (by decide +kernel)) (by decide +kernel)
theorem se_yX5_fail : Cond.selects yX5_fail.cls yX5_fail yX5_fail ∈ lwG := tm3 (List.mem_of_getElem? (i := 104) (by decide +kernel)) (by decide +kernel)
theorem ml_5_67 : ML RX5 67 yX5_fail cX5_fail 2 (some .boolean) 1 := ⟨tm3 (List.mem_of_getElem? (i := 102) (by decide +kernel)) (by decide +kernel), cw_yX5_fail, in_5, by decide, by decide +kernel, by decide +kernel⟩
theorem cw_yX0_count : Cond.code yX0_count cX0_count 3 (some .int) ∈ lwG := tm3 (List.mem_of_getElem? (i := 109) (by decide +kernel)) (by decide +kernel)
theorem im_yX0_count : Cond.instanceMethod yX0_count ∈ lwG := tm3 (List.mem_of_getElem? (i := 107) (by decide +kernel)) (by decide +kernel)
theorem se_yX0_count : Cond.selects yX0_count.cls yX0_count yX0_count ∈ lwG := tm3 (List.mem_of_getElem? (i := 108) (by decide +kernel)) (by decide +kernel)
theorem ml_9_71 : ML RX9 71 yX0_count cX0_count 3 (some .int) 2 := ⟨tm3 (List.mem_of_getElem? (i := 106) (by decide +kernel)) (by decide +kernel), cw_yX0_count, in_0, by decide, by decide +kernel, by decide +kernel⟩
theorem ml_9_75 : ML RX9 75 yX5_fail cX5_fail 2 (some .boolean) 1 := ⟨tm3 (List.mem_of_getElem? (i := 110) (by decide +kernel)) (by decide +kernel), cw_yX5_fail, in_5, by decide, by decide +kernel, by decide +kernel⟩
theorem ml_9_60 : ML RX9 60 yX5_read cX5_read 1 none 0 := ⟨tm3 (List.mem_of_getElem? (i := 111) (by decide +kernel)) (by decide +kernel), cw_yX5_read, in_5, by decide, by decide +kernel, by decide +kernel⟩
theorem cw_yX5_passSign : Cond.code yX5_passSign cX5_passSign 2 (some .boolean) ∈ lwG := tm3 (List.mem_of_getElem? (i := 115) (by decide +kernel)) (by decide +kernel)
theorem im_yX5_passSign : Cond.instanceMethod yX5_passSign ∈ lwG := tm3 (List.mem_of_getElem? (i := 113) (by decide +kernel)) (by decide +kernel)
theorem se_yX5_passSign : Cond.selects yX5_passSign.cls yX5_passSign yX5_passSign ∈ lwG := tm3 (List.mem_of_getElem? (i := 114) (by decide +kernel)) (by decide +kernel)
theorem ml_9_46 : ML RX9 46 yX5_passSign cX5_passSign 2 (some .boolean) 1 := ⟨tm3 (List.mem_of_getElem? (i := 112) (by decide +kernel)) (by decide +kernel), cw_yX5_passSign, in_5, by decide, by decide +kernel, by decide +kernel⟩
theorem ml_5_70 : ML RX5 70 yX5_isSign cX5_isSign 2 (some .boolean) 1 := ⟨tm3 (List.mem_of_getElem? (i := 116) (by decide +kernel)) (by decide +kernel), cw_yX5_isSign, in_5, by decide, by decide +kernel, by decide +kernel⟩
theorem ml_9_78 : ML RX9 78 yX0_takeFromOff cX0_takeFromOff 4 none 3 := ⟨tm3 (List.mem_of_getElem? (i := 117) (by decide +kernel)) (by decide +kernel), cw_yX0_takeFromOff, in_0, by decide, by decide +kernel, by decide +kernel⟩
theorem cw_yX9_readTurn : Cond.code yX9_readTurn cX9_readTurn 1 (some .boolean) ∈ lwG := tm3 (List.mem_of_getElem? (i := 121) (by decide +kernel)) (by decide +kernel)
theorem im_yX9_readTurn : Cond.instanceMethod yX9_readTurn ∈ lwG := tm3 (List.mem_of_getElem? (i := 120) (by decide +kernel)) (by decide +kernel)
theorem se_yX9_readTurn : Cond.selects yX9_readTurn.cls yX9_readTurn yX9_readTurn ∈ lwG := lwG_in (List.mem_append_left _ (List.mem_of_getElem? (i := 7) (by decide +kernel))) (by decide +kernel)
theorem ml_9_50 : ML RX9 50 yX9_readTurn cX9_readTurn 1 (some .boolean) 0 := ⟨tm3 (List.mem_of_getElem? (i := 118) (by decide +kernel)) (by decide +kernel), cw_yX9_readTurn, in_9, by decide, by decide +kernel, by decide +kernel⟩
theorem cw_yX0_hasAllOff : Cond.code yX0_hasAllOff cX0_hasAllOff 2 (some .boolean) ∈ lwG := tm3 (List.mem_of_getElem? (i := 125) (by decide +kernel)) (by decide +kernel)
theorem im_yX0_hasAllOff : Cond.instanceMethod yX0_hasAllOff ∈ lwG := tm3 (List.mem_of_getElem? (i := 123) (by decide +kernel)) (by decide +kernel)
theorem se_yX0_hasAllOff : Cond.selects yX0_hasAllOff.cls yX0_hasAllOff yX0_hasAllOff ∈ lwG := tm3 (List.mem_of_getElem? (i := 124) (by decide +kernel)) (by decide +kernel)
theorem ml_9_82 : ML RX9 82 yX0_hasAllOff cX0_hasAllOff 2 (some .boolean) 1 := ⟨tm3 (List.mem_of_getElem? (i := 122) (by decide +kernel)) (by decide +kernel), cw_yX0_hasAllOff, in_0, by decide, by decide +kernel, by decide +kernel⟩
theorem ml_0_47 : ML RX0 47 yX0_count cX0_count 3 (some .int) 2 := ⟨tm3 (List.mem_of_getElem? (i := 126) (by decide +kernel)) (by decide +kernel), cw_yX0_count, in_0, by decide, by decide +kernel, by decide +kernel⟩
theorem cw_yX3_keep : Cond.code yX3_keep cX3_keep 2 none ∈ lwG := tm3 (List.mem_of_getElem? (i := 130) (by decide +kernel)) (by decide +kernel)
theorem im_yX3_keep : Cond.instanceMethod yX3_keep ∈ lwG := tm3 (List.mem_of_getElem? (i := 128) (by decide +kernel)) (by decide +kernel)
theorem se_yX3_keep : Cond.selects yX3_keep.cls yX3_keep yX3_keep ∈ lwG := tm3 (List.mem_of_getElem? (i := 129) (by decide +kernel)) (by decide +kernel)
theorem ml_11_110 : ML RX11 110 yX3_keep cX3_keep 2 none 1 := ⟨tm3 (List.mem_of_getElem? (i := 127) (by decide +kernel)) (by decide +kernel), cw_yX3_keep, in_3, by decide, by decide +kernel, by decide +kernel⟩
theorem cw_yJ9_min_7cf53 : Cond.code yJ9_min_7cf53 cJ9_min_7cf53 2 (some .int) ∈ lwG := tm3 (List.mem_of_getElem? (i := 134) (by decide +kernel)) (by decide +kernel)
theorem sm_yJ9_min_7cf53 : Cond.static yJ9_min_7cf53 ∈ lwG := tm3 (List.mem_of_getElem? (i := 133) (by decide +kernel)) (by decide +kernel)
theorem ml_3_27 : ML RX3 27 yJ9_min_7cf53 cJ9_min_7cf53 2 (some .int) 2 := ⟨tm3 (List.mem_of_getElem? (i := 132) (by decide +kernel)) (by decide +kernel), cw_yJ9_min_7cf53, in_J9, by decide, by decide +kernel, by decide +kernel⟩
theorem ml_11_114 : ML RX11 114 yX0_copyFrom cX0_copyFrom 2 none 1 := ⟨tm3 (List.mem_of_getElem? (i := 135) (by decide +kernel)) (by decide +kernel), cw_yX0_copyFrom, in_0, by decide, by decide +kernel, by decide +kernel⟩
theorem cw_yX11_checkPlace : Cond.code yX11_checkPlace cX11_checkPlace 2 none ∈ lwG := tm3 (List.mem_of_getElem? (i := 146) (by decide +kernel)) (by decide +kernel)
theorem sm_yX11_checkPlace : Cond.static yX11_checkPlace ∈ lwG := tm3 (List.mem_of_getElem? (i := 145) (by decide +kernel)) (by decide +kernel)
theorem ml_11_126 : ML RX11 126 yX11_checkPlace cX11_checkPlace 2 none 2 := ⟨tm3 (List.mem_of_getElem? (i := 144) (by decide +kernel)) (by decide +kernel), cw_yX11_checkPlace, in_11, by decide, by decide +kernel, by decide +kernel⟩
theorem ml_11_130 : ML RX11 130 yX0_count cX0_count 3 (some .int) 2 := ⟨tm3 (List.mem_of_getElem? (i := 163) (by decide +kernel)) (by decide +kernel), cw_yX0_count, in_0, by decide, by decide +kernel, by decide +kernel⟩
theorem cw_yX0_pips : Cond.code yX0_pips cX0_pips 4 (some .int) ∈ lwG := tm3 (List.mem_of_getElem? (i := 174) (by decide +kernel)) (by decide +kernel)
theorem im_yX0_pips : Cond.instanceMethod yX0_pips ∈ lwG := tm3 (List.mem_of_getElem? (i := 172) (by decide +kernel)) (by decide +kernel)
theorem se_yX0_pips : Cond.selects yX0_pips.cls yX0_pips yX0_pips ∈ lwG := tm3 (List.mem_of_getElem? (i := 173) (by decide +kernel)) (by decide +kernel)
theorem ml_11_137 : ML RX11 137 yX0_pips cX0_pips 4 (some .int) 1 := ⟨tm3 (List.mem_of_getElem? (i := 171) (by decide +kernel)) (by decide +kernel), cw_yX0_pips, in_0, by decide, by decide +kernel, by decide +kernel⟩
theorem cw_yX0_isOver : Cond.code yX0_isOver cX0_isOver 1 (some .boolean) ∈ lwG := tm3 (List.mem_of_getElem? (i := 178) (by decide +kernel)) (by decide +kernel)
theorem im_yX0_isOver : Cond.instanceMethod yX0_isOver ∈ lwG := tm3 (List.mem_of_getElem? (i := 176) (by decide +kernel)) (by decide +kernel)
theorem se_yX0_isOver : Cond.selects yX0_isOver.cls yX0_isOver yX0_isOver ∈ lwG := tm3 (List.mem_of_getElem? (i := 177) (by decide +kernel)) (by decide +kernel)
theorem ml_11_141 : ML RX11 141 yX0_isOver cX0_isOver 1 (some .boolean) 0 := ⟨tm3 (List.mem_of_getElem? (i := 175) (by decide +kernel)) (by decide +kernel), cw_yX0_isOver, in_0, by decide, by decide +kernel, by decide +kernel⟩
theorem ml_0_51 : ML RX0 51 yX0_hasAllOff cX0_hasAllOff 2 (some .boolean) 1 := ⟨tm3 (List.mem_of_getElem? (i := 179) (by decide +kernel)) (by decide +kernel), cw_yX0_hasAllOff, in_0, by decide, by decide +kernel, by decide +kernel⟩
theorem cw_yX11_checkDice : Cond.code yX11_checkDice cX11_checkDice 2 none ∈ lwG := tm3 (List.mem_of_getElem? (i := 190) (by decide +kernel)) (by decide +kernel)
theorem sm_yX11_checkDice : Cond.static yX11_checkDice ∈ lwG := tm3 (List.mem_of_getElem? (i := 189) (by decide +kernel)) (by decide +kernel)
theorem ml_11_154 : ML RX11 154 yX11_checkDice cX11_checkDice 2 none 2 := ⟨tm3 (List.mem_of_getElem? (i := 188) (by decide +kernel)) (by decide +kernel), cw_yX11_checkDice, in_11, by decide, by decide +kernel, by decide +kernel⟩
theorem cw_yX11_checkDue : Cond.code yX11_checkDue cX11_checkDue 3 none ∈ lwG := tm3 (List.mem_of_getElem? (i := 195) (by decide +kernel)) (by decide +kernel)
theorem im_yX11_checkDue : Cond.instanceMethod yX11_checkDue ∈ lwG := tm3 (List.mem_of_getElem? (i := 194) (by decide +kernel)) (by decide +kernel)
theorem se_yX11_checkDue : Cond.selects yX11_checkDue.cls yX11_checkDue yX11_checkDue ∈ lwG := lwG_in (List.mem_append_left _ (List.mem_of_getElem? (i := 8) (by decide +kernel))) (by decide +kernel)
theorem ml_11_157 : ML RX11 157 yX11_checkDue cX11_checkDue 3 none 2 := ⟨tm3 (List.mem_of_getElem? (i := 192) (by decide +kernel)) (by decide +kernel), cw_yX11_checkDue, in_11, by decide, by decide +kernel, by decide +kernel⟩
theorem cw_yX2_areDue : Cond.code yX2_areDue cX2_areDue 3 (some .boolean) ∈ lwG := tm3 (List.mem_of_getElem? (i := 199) (by decide +kernel)) (by decide +kernel)
theorem im_yX2_areDue : Cond.instanceMethod yX2_areDue ∈ lwG := tm3 (List.mem_of_getElem? (i := 197) (by decide +kernel)) (by decide +kernel)
theorem se_yX2_areDue : Cond.selects yX2_areDue.cls yX2_areDue yX2_areDue ∈ lwG := tm3 (List.mem_of_getElem? (i := 198) (by decide +kernel)) (by decide +kernel)
theorem ml_11_302 : ML RX11 302 yX2_areDue cX2_areDue 3 (some .boolean) 2 := ⟨tm3 (List.mem_of_getElem? (i := 196) (by decide +kernel)) (by decide +kernel), cw_yX2_areDue, in_2, by decide, by decide +kernel, by decide +kernel⟩
theorem cw_yJ9_max_7cf53 : Cond.code yJ9_max_7cf53 cJ9_max_7cf53 2 (some .int) ∈ lwG := tm3 (List.mem_of_getElem? (i := 202) (by decide +kernel)) (by decide +kernel)
theorem sm_yJ9_max_7cf53 : Cond.static yJ9_max_7cf53 ∈ lwG := tm3 (List.mem_of_getElem? (i := 201) (by decide +kernel)) (by decide +kernel)
theorem ml_2_54 : ML RX2 54 yJ9_max_7cf53 cJ9_max_7cf53 2 (some .int) 2 := ⟨tm3 (List.mem_of_getElem? (i := 200) (by decide +kernel)) (by decide +kernel), cw_yJ9_max_7cf53, in_J9, by decide, by decide +kernel, by decide +kernel⟩
theorem ml_2_63 : ML RX2 63 yJ9_min_7cf53 cJ9_min_7cf53 2 (some .int) 2 := ⟨tm3 (List.mem_of_getElem? (i := 203) (by decide +kernel)) (by decide +kernel), cw_yJ9_min_7cf53, in_J9, by decide, by decide +kernel, by decide +kernel⟩
theorem cw_yX6_workOut : Cond.code yX6_workOut cX6_workOut 3 none ∈ lwG := tm3 (List.mem_of_getElem? (i := 208) (by decide +kernel)) (by decide +kernel)
theorem im_yX6_workOut : Cond.instanceMethod yX6_workOut ∈ lwG := tm3 (List.mem_of_getElem? (i := 206) (by decide +kernel)) (by decide +kernel)
theorem se_yX6_workOut : Cond.selects yX6_workOut.cls yX6_workOut yX6_workOut ∈ lwG := tm3 (List.mem_of_getElem? (i := 207) (by decide +kernel)) (by decide +kernel)
theorem ml_11_160 : ML RX11 160 yX6_workOut cX6_workOut 3 none 2 := ⟨tm3 (List.mem_of_getElem? (i := 205) (by decide +kernel)) (by decide +kernel), cw_yX6_workOut, in_6, by decide, by decide +kernel, by decide +kernel⟩
theorem ml_6_45 : ML RX6 45 yX0_isOver cX0_isOver 1 (some .boolean) 0 := ⟨tm3 (List.mem_of_getElem? (i := 209) (by decide +kernel)) (by decide +kernel), cw_yX0_isOver, in_0, by decide, by decide +kernel, by decide +kernel⟩
theorem cw_yX6_record : Cond.code yX6_record cX6_record 6 none ∈ lwG := tm3 (List.mem_of_getElem? (i := 213) (by decide +kernel)) (by decide +kernel)
theorem im_yX6_record : Cond.instanceMethod yX6_record ∈ lwG := tm3 (List.mem_of_getElem? (i := 212) (by decide +kernel)) (by decide +kernel)
theorem se_yX6_record : Cond.selects yX6_record.cls yX6_record yX6_record ∈ lwG := lwG_in (List.mem_append_left _ (List.mem_of_getElem? (i := 9) (by decide +kernel))) (by decide +kernel)
theorem ml_6_49 : ML RX6 49 yX6_record cX6_record 6 none 2 := ⟨tm3 (List.mem_of_getElem? (i := 210) (by decide +kernel)) (by decide +kernel), cw_yX6_record, in_6, by decide, by decide +kernel, by decide +kernel⟩
theorem cw_yX6_makeKey : Cond.code yX6_makeKey cX6_makeKey 1 none ∈ lwG := tm3 (List.mem_of_getElem? (i := 217) (by decide +kernel)) (by decide +kernel)
theorem im_yX6_makeKey : Cond.instanceMethod yX6_makeKey ∈ lwG := tm3 (List.mem_of_getElem? (i := 216) (by decide +kernel)) (by decide +kernel)
theorem se_yX6_makeKey : Cond.selects yX6_makeKey.cls yX6_makeKey yX6_makeKey ∈ lwG := lwG_in (List.mem_append_left _ (List.mem_of_getElem? (i := 10) (by decide +kernel))) (by decide +kernel)
theorem ml_6_89 : ML RX6 89 yX6_makeKey cX6_makeKey 1 none 0 := ⟨tm3 (List.mem_of_getElem? (i := 214) (by decide +kernel)) (by decide +kernel), cw_yX6_makeKey, in_6, by decide, by decide +kernel, by decide +kernel⟩
theorem cw_yX0_half : Cond.code yX0_half cX0_half 6 (some .long) ∈ lwG := tm3 (List.mem_of_getElem? (i := 221) (by decide +kernel)) (by decide +kernel)
theorem im_yX0_half : Cond.instanceMethod yX0_half ∈ lwG := tm3 (List.mem_of_getElem? (i := 219) (by decide +kernel)) (by decide +kernel)
theorem se_yX0_half : Cond.selects yX0_half.cls yX0_half yX0_half ∈ lwG := tm3 (List.mem_of_getElem? (i := 220) (by decide +kernel)) (by decide +kernel)
theorem ml_6_122 : ML RX6 122 yX0_half cX0_half 6 (some .long) 2 := ⟨tm3 (List.mem_of_getElem? (i := 218) (by decide +kernel)) (by decide +kernel), cw_yX0_half, in_0, by decide, by decide +kernel, by decide +kernel⟩
theorem cw_yX6_placeOfKey : Cond.code yX6_placeOfKey cX6_placeOfKey 5 (some .int) ∈ lwG := tm3 (List.mem_of_getElem? (i := 225) (by decide +kernel)) (by decide +kernel)
theorem im_yX6_placeOfKey : Cond.instanceMethod yX6_placeOfKey ∈ lwG := tm3 (List.mem_of_getElem? (i := 224) (by decide +kernel)) (by decide +kernel)
theorem se_yX6_placeOfKey : Cond.selects yX6_placeOfKey.cls yX6_placeOfKey yX6_placeOfKey ∈ lwG := lwG_in (List.mem_append_left _ (List.mem_of_getElem? (i := 11) (by decide +kernel))) (by decide +kernel)
theorem ml_6_92 : ML RX6 92 yX6_placeOfKey cX6_placeOfKey 5 (some .int) 0 := ⟨tm3 (List.mem_of_getElem? (i := 222) (by decide +kernel)) (by decide +kernel), cw_yX6_placeOfKey, in_6, by decide, by decide +kernel, by decide +kernel⟩
theorem cw_yX6_compareKey : Cond.code yX6_compareKey cX6_compareKey 5 (some .int) ∈ lwG := tm3 (List.mem_of_getElem? (i := 229) (by decide +kernel)) (by decide +kernel)
theorem im_yX6_compareKey : Cond.instanceMethod yX6_compareKey ∈ lwG := tm3 (List.mem_of_getElem? (i := 228) (by decide +kernel)) (by decide +kernel)
theorem se_yX6_compareKey : Cond.selects yX6_compareKey.cls yX6_compareKey yX6_compareKey ∈ lwG := lwG_in (List.mem_append_left _ (List.mem_of_getElem? (i := 12) (by decide +kernel))) (by decide +kernel)
theorem ml_6_96 : ML RX6 96 yX6_compareKey cX6_compareKey 5 (some .int) 1 := ⟨tm3 (List.mem_of_getElem? (i := 226) (by decide +kernel)) (by decide +kernel), cw_yX6_compareKey, in_6, by decide, by decide +kernel, by decide +kernel⟩
theorem cw_yJ9_max_f86c9 : Cond.code yJ9_max_f86c9 cJ9_max_f86c9 4 (some .long) ∈ lwG := tm3 (List.mem_of_getElem? (i := 232) (by decide +kernel)) (by decide +kernel)
theorem sm_yJ9_max_f86c9 : Cond.static yJ9_max_f86c9 ∈ lwG := tm3 (List.mem_of_getElem? (i := 231) (by decide +kernel)) (by decide +kernel)
theorem ml_6_100 : ML RX6 100 yJ9_max_f86c9 cJ9_max_f86c9 4 (some .long) 2 := ⟨tm3 (List.mem_of_getElem? (i := 230) (by decide +kernel)) (by decide +kernel), cw_yJ9_max_f86c9, in_J9, by decide, by decide +kernel, by decide +kernel⟩
theorem cw_yX6_insert : Cond.code yX6_insert cX6_insert 4 none ∈ lwG := tm3 (List.mem_of_getElem? (i := 236) (by decide +kernel)) (by decide +kernel)
theorem im_yX6_insert : Cond.instanceMethod yX6_insert ∈ lwG := tm3 (List.mem_of_getElem? (i := 235) (by decide +kernel)) (by decide +kernel)
theorem se_yX6_insert : Cond.selects yX6_insert.cls yX6_insert yX6_insert ∈ lwG := lwG_in (List.mem_append_left _ (List.mem_of_getElem? (i := 13) (by decide +kernel))) (by decide +kernel)
theorem ml_6_103 : ML RX6 103 yX6_insert cX6_insert 4 none 2 := ⟨tm3 (List.mem_of_getElem? (i := 233) (by decide +kernel)) (by decide +kernel), cw_yX6_insert, in_6, by decide, by decide +kernel, by decide +kernel⟩
theorem cw_yJ7_copyOf_59c91 : Cond.code yJ7_copyOf_59c91 cJ7_copyOf_59c91 3 (some (.array .int)) ∈ lwG := tm3 (List.mem_of_getElem? (i := 239) (by decide +kernel)) (by decide +kernel)
theorem sm_yJ7_copyOf_59c91 : Cond.static yJ7_copyOf_59c91 ∈ lwG := tm3 (List.mem_of_getElem? (i := 238) (by decide +kernel)) (by decide +kernel)
theorem ml_6_107 : ML RX6 107 yJ7_copyOf_59c91 cJ7_copyOf_59c91 3 (some (.array .int)) 2 := ⟨tm3 (List.mem_of_getElem? (i := 237) (by decide +kernel)) (by decide +kernel), cw_yJ7_copyOf_59c91, in_J7, by decide, by decide +kernel, by decide +kernel⟩
theorem cw_yJ7_copyOf_c38d5 : Cond.code yJ7_copyOf_c38d5 cJ7_copyOf_c38d5 3 (some (.array .long)) ∈ lwG := tm4 (List.mem_of_getElem? (i := 11) (by decide +kernel)) (by decide +kernel)
theorem sm_yJ7_copyOf_c38d5 : Cond.static yJ7_copyOf_c38d5 ∈ lwG := tm4 (List.mem_of_getElem? (i := 10) (by decide +kernel)) (by decide +kernel)
theorem ml_6_113 : ML RX6 113 yJ7_copyOf_c38d5 cJ7_copyOf_c38d5 3 (some (.array .long)) 2 := ⟨tm4 (List.mem_of_getElem? (i := 9) (by decide +kernel)) (by decide +kernel), cw_yJ7_copyOf_c38d5, in_J7, by decide, by decide +kernel, by decide +kernel⟩
theorem cw_yX6_extend : Cond.code yX6_extend cX6_extend 10 none ∈ lwG := tm4 (List.mem_of_getElem? (i := 21) (by decide +kernel)) (by decide +kernel)
theorem im_yX6_extend : Cond.instanceMethod yX6_extend ∈ lwG := tm4 (List.mem_of_getElem? (i := 20) (by decide +kernel)) (by decide +kernel)
theorem se_yX6_extend : Cond.selects yX6_extend.cls yX6_extend yX6_extend ∈ lwG := lwG_in (List.mem_append_left _ (List.mem_of_getElem? (i := 14) (by decide +kernel))) (by decide +kernel)
theorem ml_6_53 : ML RX6 53 yX6_extend cX6_extend 10 none 4 := ⟨tm4 (List.mem_of_getElem? (i := 18) (by decide +kernel)) (by decide +kernel), cw_yX6_extend, in_6, by decide, by decide +kernel, by decide +kernel⟩
theorem cw_yX0_canMove : Cond.code yX0_canMove cX0_canMove 5 (some .boolean) ∈ lwG := tm4 (List.mem_of_getElem? (i := 25) (by decide +kernel)) (by decide +kernel)
theorem im_yX0_canMove : Cond.instanceMethod yX0_canMove ∈ lwG := tm4 (List.mem_of_getElem? (i := 23) (by decide +kernel)) (by decide +kernel)
theorem se_yX0_canMove : Cond.selects yX0_canMove.cls yX0_canMove yX0_canMove ∈ lwG := tm4 (List.mem_of_getElem? (i := 24) (by decide +kernel)) (by decide +kernel)
theorem ml_6_70 : ML RX6 70 yX0_canMove cX0_canMove 5 (some .boolean) 2 := ⟨tm4 (List.mem_of_getElem? (i := 22) (by decide +kernel)) (by decide +kernel), cw_yX0_canMove, in_0, by decide, by decide +kernel, by decide +kernel⟩
theorem cw_yX0_highest : Cond.code yX0_highest cX0_highest 3 (some .int) ∈ lwG := tm4 (List.mem_of_getElem? (i := 29) (by decide +kernel)) (by decide +kernel)
theorem im_yX0_highest : Cond.instanceMethod yX0_highest ∈ lwG := tm4 (List.mem_of_getElem? (i := 27) (by decide +kernel)) (by decide +kernel)
theorem se_yX0_highest : Cond.selects yX0_highest.cls yX0_highest yX0_highest ∈ lwG := tm4 (List.mem_of_getElem? (i := 28) (by decide +kernel)) (by decide +kernel)
theorem ml_0_55 : ML RX0 55 yX0_highest cX0_highest 3 (some .int) 1 := ⟨tm4 (List.mem_of_getElem? (i := 26) (by decide +kernel)) (by decide +kernel), cw_yX0_highest, in_0, by decide, by decide +kernel, by decide +kernel⟩
theorem ml_6_57 : ML RX6 57 yJ9_max_7cf53 cJ9_max_7cf53 2 (some .int) 2 := ⟨tm4 (List.mem_of_getElem? (i := 30) (by decide +kernel)) (by decide +kernel), cw_yJ9_max_7cf53, in_J9, by decide, by decide +kernel, by decide +kernel⟩
theorem cw_yX0_move : Cond.code yX0_move cX0_move 4 (some .boolean) ∈ lwG := tm4 (List.mem_of_getElem? (i := 34) (by decide +kernel)) (by decide +kernel)
theorem im_yX0_move : Cond.instanceMethod yX0_move ∈ lwG := tm4 (List.mem_of_getElem? (i := 32) (by decide +kernel)) (by decide +kernel)
theorem se_yX0_move : Cond.selects yX0_move.cls yX0_move yX0_move ∈ lwG := tm4 (List.mem_of_getElem? (i := 33) (by decide +kernel)) (by decide +kernel)
theorem ml_6_74 : ML RX6 74 yX0_move cX0_move 4 (some .boolean) 2 := ⟨tm4 (List.mem_of_getElem? (i := 31) (by decide +kernel)) (by decide +kernel), cw_yX0_move, in_0, by decide, by decide +kernel, by decide +kernel⟩
theorem cw_yX6_withMove : Cond.code yX6_withMove cX6_withMove 7 (some .long) ∈ lwG := tm4 (List.mem_of_getElem? (i := 37) (by decide +kernel)) (by decide +kernel)
theorem sm_yX6_withMove : Cond.static yX6_withMove ∈ lwG := tm4 (List.mem_of_getElem? (i := 36) (by decide +kernel)) (by decide +kernel)
theorem ml_6_77 : ML RX6 77 yX6_withMove cX6_withMove 7 (some .long) 4 := ⟨tm4 (List.mem_of_getElem? (i := 35) (by decide +kernel)) (by decide +kernel), cw_yX6_withMove, in_6, by decide, by decide +kernel, by decide +kernel⟩
theorem cw_yX0_unmove : Cond.code yX0_unmove cX0_unmove 4 none ∈ lwG := tm4 (List.mem_of_getElem? (i := 41) (by decide +kernel)) (by decide +kernel)
theorem im_yX0_unmove : Cond.instanceMethod yX0_unmove ∈ lwG := tm4 (List.mem_of_getElem? (i := 39) (by decide +kernel)) (by decide +kernel)
theorem se_yX0_unmove : Cond.selects yX0_unmove.cls yX0_unmove yX0_unmove ∈ lwG := tm4 (List.mem_of_getElem? (i := 40) (by decide +kernel)) (by decide +kernel)
theorem ml_6_81 : ML RX6 81 yX0_unmove cX0_unmove 4 none 3 := ⟨tm4 (List.mem_of_getElem? (i := 38) (by decide +kernel)) (by decide +kernel), cw_yX0_unmove, in_0, by decide, by decide +kernel, by decide +kernel⟩
theorem ml_6_63 : ML RX6 63 yJ9_min_7cf53 cJ9_min_7cf53 2 (some .int) 2 := ⟨tm4 (List.mem_of_getElem? (i := 42) (by decide +kernel)) (by decide +kernel), cw_yJ9_min_7cf53, in_J9, by decide, by decide +kernel, by decide +kernel⟩
theorem cw_yX6_goByBoth : Cond.code yX6_goByBoth cX6_goByBoth 7 none ∈ lwG := tm4 (List.mem_of_getElem? (i := 46) (by decide +kernel)) (by decide +kernel)
theorem im_yX6_goByBoth : Cond.instanceMethod yX6_goByBoth ∈ lwG := tm4 (List.mem_of_getElem? (i := 45) (by decide +kernel)) (by decide +kernel)
theorem se_yX6_goByBoth : Cond.selects yX6_goByBoth.cls yX6_goByBoth yX6_goByBoth ∈ lwG := lwG_in (List.mem_append_left _ (List.mem_of_getElem? (i := 15) (by decide +kernel))) (by decide +kernel)
theorem ml_6_66 : ML RX6 66 yX6_goByBoth cX6_goByBoth 7 none 2 := ⟨tm4 (List.mem_of_getElem? (i := 43) (by decide +kernel)) (by decide +kernel), cw_yX6_goByBoth, in_6, by decide, by decide +kernel, by decide +kernel⟩
theorem cw_yX6_goOnBy : Cond.code yX6_goOnBy cX6_goOnBy 9 none ∈ lwG := tm4 (List.mem_of_getElem? (i := 50) (by decide +kernel)) (by decide +kernel)
theorem im_yX6_goOnBy : Cond.instanceMethod yX6_goOnBy ∈ lwG := tm4 (List.mem_of_getElem? (i := 49) (by decide +kernel)) (by decide +kernel)
theorem se_yX6_goOnBy : Cond.selects yX6_goOnBy.cls yX6_goOnBy yX6_goOnBy ∈ lwG := lwG_in (List.mem_append_left _ (List.mem_of_getElem? (i := 16) (by decide +kernel))) (by decide +kernel)
theorem ml_6_85 : ML RX6 85 yX6_goOnBy cX6_goOnBy 9 none 3 := ⟨tm4 (List.mem_of_getElem? (i := 47) (by decide +kernel)) (by decide +kernel), cw_yX6_goOnBy, in_6, by decide, by decide +kernel, by decide +kernel⟩
theorem cw_yX11_checkResult : Cond.code yX11_checkResult cX11_checkResult 2 none ∈ lwG := tm4 (List.mem_of_getElem? (i := 62) (by decide +kernel)) (by decide +kernel)
theorem im_yX11_checkResult : Cond.instanceMethod yX11_checkResult ∈ lwG := tm4 (List.mem_of_getElem? (i := 61) (by decide +kernel)) (by decide +kernel)
theorem se_yX11_checkResult : Cond.selects yX11_checkResult.cls yX11_checkResult yX11_checkResult ∈ lwG := lwG_in (List.mem_append_left _ (List.mem_of_getElem? (i := 17) (by decide +kernel))) (by decide +kernel)
theorem ml_11_163 : ML RX11 163 yX11_checkResult cX11_checkResult 2 none 1 := ⟨tm4 (List.mem_of_getElem? (i := 59) (by decide +kernel)) (by decide +kernel), cw_yX11_checkResult, in_11, by decide, by decide +kernel, by decide +kernel⟩
theorem cw_yX6_menOf : Cond.code yX6_menOf cX6_menOf 6 (some .int) ∈ lwG := tm4 (List.mem_of_getElem? (i := 82) (by decide +kernel)) (by decide +kernel)
theorem im_yX6_menOf : Cond.instanceMethod yX6_menOf ∈ lwG := tm4 (List.mem_of_getElem? (i := 80) (by decide +kernel)) (by decide +kernel)
theorem se_yX6_menOf : Cond.selects yX6_menOf.cls yX6_menOf yX6_menOf ∈ lwG := tm4 (List.mem_of_getElem? (i := 81) (by decide +kernel)) (by decide +kernel)
theorem ml_11_166 : ML RX11 166 yX6_menOf cX6_menOf 6 (some .int) 3 := ⟨tm4 (List.mem_of_getElem? (i := 79) (by decide +kernel)) (by decide +kernel), cw_yX6_menOf, in_6, by decide, by decide +kernel, by decide +kernel⟩
theorem cw_yX6_moveOf : Cond.code yX6_moveOf cX6_moveOf 4 (some .int) ∈ lwG := tm4 (List.mem_of_getElem? (i := 93) (by decide +kernel)) (by decide +kernel)
theorem im_yX6_moveOf : Cond.instanceMethod yX6_moveOf ∈ lwG := tm4 (List.mem_of_getElem? (i := 91) (by decide +kernel)) (by decide +kernel)
theorem se_yX6_moveOf : Cond.selects yX6_moveOf.cls yX6_moveOf yX6_moveOf ∈ lwG := tm4 (List.mem_of_getElem? (i := 92) (by decide +kernel)) (by decide +kernel)
theorem ml_11_170 : ML RX11 170 yX6_moveOf cX6_moveOf 4 (some .int) 2 := ⟨tm4 (List.mem_of_getElem? (i := 90) (by decide +kernel)) (by decide +kernel), cw_yX6_moveOf, in_6, by decide, by decide +kernel, by decide +kernel⟩
theorem cw_yX6_putOnBoard : Cond.code yX6_putOnBoard cX6_putOnBoard 3 none ∈ lwG := tm4 (List.mem_of_getElem? (i := 104) (by decide +kernel)) (by decide +kernel)
theorem im_yX6_putOnBoard : Cond.instanceMethod yX6_putOnBoard ∈ lwG := tm4 (List.mem_of_getElem? (i := 102) (by decide +kernel)) (by decide +kernel)
theorem se_yX6_putOnBoard : Cond.selects yX6_putOnBoard.cls yX6_putOnBoard yX6_putOnBoard ∈ lwG := tm4 (List.mem_of_getElem? (i := 103) (by decide +kernel)) (by decide +kernel)
theorem ml_11_173 : ML RX11 173 yX6_putOnBoard cX6_putOnBoard 3 none 1 := ⟨tm4 (List.mem_of_getElem? (i := 101) (by decide +kernel)) (by decide +kernel), cw_yX6_putOnBoard, in_6, by decide, by decide +kernel, by decide +kernel⟩
theorem cw_yX0_putHalf : Cond.code yX0_putHalf cX0_putHalf 6 none ∈ lwG := tm4 (List.mem_of_getElem? (i := 108) (by decide +kernel)) (by decide +kernel)
theorem im_yX0_putHalf : Cond.instanceMethod yX0_putHalf ∈ lwG := tm4 (List.mem_of_getElem? (i := 106) (by decide +kernel)) (by decide +kernel)
theorem se_yX0_putHalf : Cond.selects yX0_putHalf.cls yX0_putHalf yX0_putHalf ∈ lwG := tm4 (List.mem_of_getElem? (i := 107) (by decide +kernel)) (by decide +kernel)
theorem ml_6_126 : ML RX6 126 yX0_putHalf cX0_putHalf 6 none 3 := ⟨tm4 (List.mem_of_getElem? (i := 105) (by decide +kernel)) (by decide +kernel), cw_yX0_putHalf, in_0, by decide, by decide +kernel, by decide +kernel⟩
theorem cw_yX2_goOn : Cond.code yX2_goOn cX2_goOn 2 none ∈ lwG := tm4 (List.mem_of_getElem? (i := 112) (by decide +kernel)) (by decide +kernel)
theorem im_yX2_goOn : Cond.instanceMethod yX2_goOn ∈ lwG := tm4 (List.mem_of_getElem? (i := 110) (by decide +kernel)) (by decide +kernel)
theorem se_yX2_goOn : Cond.selects yX2_goOn.cls yX2_goOn yX2_goOn ∈ lwG := tm4 (List.mem_of_getElem? (i := 111) (by decide +kernel)) (by decide +kernel)
theorem ml_11_176 : ML RX11 176 yX2_goOn cX2_goOn 2 none 1 := ⟨tm4 (List.mem_of_getElem? (i := 109) (by decide +kernel)) (by decide +kernel), cw_yX2_goOn, in_2, by decide, by decide +kernel, by decide +kernel⟩
theorem cw_yX2_setDice : Cond.code yX2_setDice cX2_setDice 3 none ∈ lwG := tm4 (List.mem_of_getElem? (i := 116) (by decide +kernel)) (by decide +kernel)
theorem im_yX2_setDice : Cond.instanceMethod yX2_setDice ∈ lwG := tm4 (List.mem_of_getElem? (i := 115) (by decide +kernel)) (by decide +kernel)
theorem se_yX2_setDice : Cond.selects yX2_setDice.cls yX2_setDice yX2_setDice ∈ lwG := lwG_in (List.mem_append_left _ (List.mem_of_getElem? (i := 18) (by decide +kernel))) (by decide +kernel)
theorem ml_2_50 : ML RX2 50 yX2_setDice cX2_setDice 3 none 2 := ⟨tm4 (List.mem_of_getElem? (i := 113) (by decide +kernel)) (by decide +kernel), cw_yX2_setDice, in_2, by decide, by decide +kernel, by decide +kernel⟩
theorem ml_2_77 : ML RX2 77 yX0_hasAllOff cX0_hasAllOff 2 (some .boolean) 1 := ⟨tm4 (List.mem_of_getElem? (i := 117) (by decide +kernel)) (by decide +kernel), cw_yX0_hasAllOff, in_0, by decide, by decide +kernel, by decide +kernel⟩
theorem cw_yX2_timesWon : Cond.code yX2_timesWon cX2_timesWon 2 (some .int) ∈ lwG := tm4 (List.mem_of_getElem? (i := 120) (by decide +kernel)) (by decide +kernel)
theorem sm_yX2_timesWon : Cond.static yX2_timesWon ∈ lwG := tm4 (List.mem_of_getElem? (i := 119) (by decide +kernel)) (by decide +kernel)
theorem ml_2_81 : ML RX2 81 yX2_timesWon cX2_timesWon 2 (some .int) 2 := ⟨tm4 (List.mem_of_getElem? (i := 118) (by decide +kernel)) (by decide +kernel), cw_yX2_timesWon, in_2, by decide, by decide +kernel, by decide +kernel⟩
theorem ml_2_88 : ML RX2 88 yX0_count cX0_count 3 (some .int) 2 := ⟨tm4 (List.mem_of_getElem? (i := 121) (by decide +kernel)) (by decide +kernel), cw_yX0_count, in_0, by decide, by decide +kernel, by decide +kernel⟩
theorem ml_2_91 : ML RX2 91 yX0_highest cX0_highest 3 (some .int) 1 := ⟨tm4 (List.mem_of_getElem? (i := 122) (by decide +kernel)) (by decide +kernel), cw_yX0_highest, in_0, by decide, by decide +kernel, by decide +kernel⟩
theorem cw_yX2_end : Cond.code yX2_end cX2_end 3 none ∈ lwG := tm4 (List.mem_of_getElem? (i := 126) (by decide +kernel)) (by decide +kernel)
theorem im_yX2_end : Cond.instanceMethod yX2_end ∈ lwG := tm4 (List.mem_of_getElem? (i := 124) (by decide +kernel)) (by decide +kernel)
theorem se_yX2_end : Cond.selects yX2_end.cls yX2_end yX2_end ∈ lwG := tm4 (List.mem_of_getElem? (i := 125) (by decide +kernel)) (by decide +kernel)
theorem ml_2_85 : ML RX2 85 yX2_end cX2_end 3 none 2 := ⟨tm4 (List.mem_of_getElem? (i := 123) (by decide +kernel)) (by decide +kernel), cw_yX2_end, in_2, by decide, by decide +kernel, by decide +kernel⟩
theorem cw_yX9_parseMoves : Cond.code yX9_parseMoves cX9_parseMoves 3 (some .boolean) ∈ lwG := tm4 (List.mem_of_getElem? (i := 137) (by decide +kernel)) (by decide +kernel)
theorem im_yX9_parseMoves : Cond.instanceMethod yX9_parseMoves ∈ lwG := tm4 (List.mem_of_getElem? (i := 135) (by decide +kernel)) (by decide +kernel)
theorem se_yX9_parseMoves : Cond.selects yX9_parseMoves.cls yX9_parseMoves yX9_parseMoves ∈ lwG := tm4 (List.mem_of_getElem? (i := 136) (by decide +kernel)) (by decide +kernel)
theorem ml_11_179 : ML RX11 179 yX9_parseMoves cX9_parseMoves 3 (some .boolean) 1 := ⟨tm4 (List.mem_of_getElem? (i := 134) (by decide +kernel)) (by decide +kernel), cw_yX9_parseMoves, in_9, by decide, by decide +kernel, by decide +kernel⟩
theorem cw_yX9_readMove : Cond.code yX9_readMove cX9_readMove 4 (some .boolean) ∈ lwG := tm4 (List.mem_of_getElem? (i := 141) (by decide +kernel)) (by decide +kernel)
theorem im_yX9_readMove : Cond.instanceMethod yX9_readMove ∈ lwG := tm4 (List.mem_of_getElem? (i := 140) (by decide +kernel)) (by decide +kernel)
theorem se_yX9_readMove : Cond.selects yX9_readMove.cls yX9_readMove yX9_readMove ∈ lwG := lwG_in (List.mem_append_left _ (List.mem_of_getElem? (i := 19) (by decide +kernel))) (by decide +kernel)
theorem ml_9_93 : ML RX9 93 yX9_readMove cX9_readMove 4 (some .boolean) 0 := ⟨tm4 (List.mem_of_getElem? (i := 138) (by decide +kernel)) (by decide +kernel), cw_yX9_readMove, in_9, by decide, by decide +kernel, by decide +kernel⟩
theorem cw_yX9_readPoint : Cond.code yX9_readPoint cX9_readPoint 5 (some .int) ∈ lwG := tm4 (List.mem_of_getElem? (i := 145) (by decide +kernel)) (by decide +kernel)
theorem im_yX9_readPoint : Cond.instanceMethod yX9_readPoint ∈ lwG := tm4 (List.mem_of_getElem? (i := 144) (by decide +kernel)) (by decide +kernel)
theorem se_yX9_readPoint : Cond.selects yX9_readPoint.cls yX9_readPoint yX9_readPoint ∈ lwG := lwG_in (List.mem_append_left _ (List.mem_of_getElem? (i := 20) (by decide +kernel))) (by decide +kernel)
theorem ml_9_96 : ML RX9 96 yX9_readPoint cX9_readPoint 5 (some .int) 4 := ⟨tm4 (List.mem_of_getElem? (i := 142) (by decide +kernel)) (by decide +kernel), cw_yX9_readPoint, in_9, by decide, by decide +kernel, by decide +kernel⟩
theorem cw_yX5_isWord : Cond.code yX5_isWord cX5_isWord 4 (some .boolean) ∈ lwG := tm4 (List.mem_of_getElem? (i := 149) (by decide +kernel)) (by decide +kernel)
theorem im_yX5_isWord : Cond.instanceMethod yX5_isWord ∈ lwG := tm4 (List.mem_of_getElem? (i := 147) (by decide +kernel)) (by decide +kernel)
theorem se_yX5_isWord : Cond.selects yX5_isWord.cls yX5_isWord yX5_isWord ∈ lwG := tm4 (List.mem_of_getElem? (i := 148) (by decide +kernel)) (by decide +kernel)
theorem ml_9_107 : ML RX9 107 yX5_isWord cX5_isWord 4 (some .boolean) 3 := ⟨tm4 (List.mem_of_getElem? (i := 146) (by decide +kernel)) (by decide +kernel), cw_yX5_isWord, in_5, by decide, by decide +kernel, by decide +kernel⟩
theorem cw_yX9_readStep : Cond.code yX9_readStep cX9_readStep 4 (some .int) ∈ lwG := tm4 (List.mem_of_getElem? (i := 153) (by decide +kernel)) (by decide +kernel)
theorem im_yX9_readStep : Cond.instanceMethod yX9_readStep ∈ lwG := tm4 (List.mem_of_getElem? (i := 152) (by decide +kernel)) (by decide +kernel)
theorem se_yX9_readStep : Cond.selects yX9_readStep.cls yX9_readStep yX9_readStep ∈ lwG := lwG_in (List.mem_append_left _ (List.mem_of_getElem? (i := 21) (by decide +kernel))) (by decide +kernel)
theorem ml_9_100 : ML RX9 100 yX9_readStep cX9_readStep 4 (some .int) 1 := ⟨tm4 (List.mem_of_getElem? (i := 150) (by decide +kernel)) (by decide +kernel), cw_yX9_readStep, in_9, by decide, by decide +kernel, by decide +kernel⟩
theorem cw_yX9_addMove : Cond.code yX9_addMove cX9_addMove 4 none ∈ lwG := tm4 (List.mem_of_getElem? (i := 157) (by decide +kernel)) (by decide +kernel)
theorem im_yX9_addMove : Cond.instanceMethod yX9_addMove ∈ lwG := tm4 (List.mem_of_getElem? (i := 156) (by decide +kernel)) (by decide +kernel)
theorem se_yX9_addMove : Cond.selects yX9_addMove.cls yX9_addMove yX9_addMove ∈ lwG := lwG_in (List.mem_append_left _ (List.mem_of_getElem? (i := 22) (by decide +kernel))) (by decide +kernel)
theorem ml_9_111 : ML RX9 111 yX9_addMove cX9_addMove 4 none 3 := ⟨tm4 (List.mem_of_getElem? (i := 154) (by decide +kernel)) (by decide +kernel), cw_yX9_addMove, in_9, by decide, by decide +kernel, by decide +kernel⟩
theorem cw_yX9_readTimes : Cond.code yX9_readTimes cX9_readTimes 5 (some .boolean) ∈ lwG := tm4 (List.mem_of_getElem? (i := 161) (by decide +kernel)) (by decide +kernel)
theorem im_yX9_readTimes : Cond.instanceMethod yX9_readTimes ∈ lwG := tm4 (List.mem_of_getElem? (i := 160) (by decide +kernel)) (by decide +kernel)
theorem se_yX9_readTimes : Cond.selects yX9_readTimes.cls yX9_readTimes yX9_readTimes ∈ lwG := lwG_in (List.mem_append_left _ (List.mem_of_getElem? (i := 23) (by decide +kernel))) (by decide +kernel)
theorem ml_9_104 : ML RX9 104 yX9_readTimes cX9_readTimes 5 (some .boolean) 1 := ⟨tm4 (List.mem_of_getElem? (i := 158) (by decide +kernel)) (by decide +kernel), cw_yX9_readTimes, in_9, by decide, by decide +kernel, by decide +kernel⟩
theorem cw_yX6_numberOf : Cond.code yX6_numberOf cX6_numberOf 5 (some .int) ∈ lwG := tm4 (List.mem_of_getElem? (i := 165) (by decide +kernel)) (by decide +kernel)
theorem im_yX6_numberOf : Cond.instanceMethod yX6_numberOf ∈ lwG := tm4 (List.mem_of_getElem? (i := 163) (by decide +kernel)) (by decide +kernel)
theorem se_yX6_numberOf : Cond.selects yX6_numberOf.cls yX6_numberOf yX6_numberOf ∈ lwG := tm4 (List.mem_of_getElem? (i := 164) (by decide +kernel)) (by decide +kernel)
theorem ml_11_182 : ML RX11 182 yX6_numberOf cX6_numberOf 5 (some .int) 3 := ⟨tm4 (List.mem_of_getElem? (i := 162) (by decide +kernel)) (by decide +kernel), cw_yX6_numberOf, in_6, by decide, by decide +kernel, by decide +kernel⟩
theorem cw_yX6_numberBy : Cond.code yX6_numberBy cX6_numberBy 9 (some .int) ∈ lwG := tm4 (List.mem_of_getElem? (i := 169) (by decide +kernel)) (by decide +kernel)
theorem im_yX6_numberBy : Cond.instanceMethod yX6_numberBy ∈ lwG := tm4 (List.mem_of_getElem? (i := 168) (by decide +kernel)) (by decide +kernel)
theorem se_yX6_numberBy : Cond.selects yX6_numberBy.cls yX6_numberBy yX6_numberBy ∈ lwG := lwG_in (List.mem_append_left _ (List.mem_of_getElem? (i := 24) (by decide +kernel))) (by decide +kernel)
theorem ml_6_130 : ML RX6 130 yX6_numberBy cX6_numberBy 9 (some .int) 3 := ⟨tm4 (List.mem_of_getElem? (i := 166) (by decide +kernel)) (by decide +kernel), cw_yX6_numberBy, in_6, by decide, by decide +kernel, by decide +kernel⟩
theorem cw_yX6_goAsTold : Cond.code yX6_goAsTold cX6_goAsTold 6 (some .boolean) ∈ lwG := tm4 (List.mem_of_getElem? (i := 173) (by decide +kernel)) (by decide +kernel)
theorem im_yX6_goAsTold : Cond.instanceMethod yX6_goAsTold ∈ lwG := tm4 (List.mem_of_getElem? (i := 172) (by decide +kernel)) (by decide +kernel)
theorem se_yX6_goAsTold : Cond.selects yX6_goAsTold.cls yX6_goAsTold yX6_goAsTold ∈ lwG := lwG_in (List.mem_append_left _ (List.mem_of_getElem? (i := 25) (by decide +kernel))) (by decide +kernel)
theorem ml_6_137 : ML RX6 137 yX6_goAsTold cX6_goAsTold 6 (some .boolean) 3 := ⟨tm4 (List.mem_of_getElem? (i := 170) (by decide +kernel)) (by decide +kernel), cw_yX6_goAsTold, in_6, by decide, by decide +kernel, by decide +kernel⟩
theorem cw_yX6_compareStars : Cond.code yX6_compareStars cX6_compareStars 3 none ∈ lwG := tm4 (List.mem_of_getElem? (i := 177) (by decide +kernel)) (by decide +kernel)
theorem im_yX6_compareStars : Cond.instanceMethod yX6_compareStars ∈ lwG := tm4 (List.mem_of_getElem? (i := 176) (by decide +kernel)) (by decide +kernel)
theorem se_yX6_compareStars : Cond.selects yX6_compareStars.cls yX6_compareStars yX6_compareStars ∈ lwG := lwG_in (List.mem_append_left _ (List.mem_of_getElem? (i := 26) (by decide +kernel))) (by decide +kernel)
theorem ml_6_141 : ML RX6 141 yX6_compareStars cX6_compareStars 3 none 1 := ⟨tm4 (List.mem_of_getElem? (i := 174) (by decide +kernel)) (by decide +kernel), cw_yX6_compareStars, in_6, by decide, by decide +kernel, by decide +kernel⟩
theorem cw_yX5_failAtEnd : Cond.code yX5_failAtEnd cX5_failAtEnd 2 none ∈ lwG := tm4 (List.mem_of_getElem? (i := 181) (by decide +kernel)) (by decide +kernel)
theorem im_yX5_failAtEnd : Cond.instanceMethod yX5_failAtEnd ∈ lwG := tm4 (List.mem_of_getElem? (i := 179) (by decide +kernel)) (by decide +kernel)
theorem se_yX5_failAtEnd : Cond.selects yX5_failAtEnd.cls yX5_failAtEnd yX5_failAtEnd ∈ lwG := tm4 (List.mem_of_getElem? (i := 180) (by decide +kernel)) (by decide +kernel)
theorem ml_11_186 : ML RX11 186 yX5_failAtEnd cX5_failAtEnd 2 none 1 := ⟨tm4 (List.mem_of_getElem? (i := 178) (by decide +kernel)) (by decide +kernel), cw_yX5_failAtEnd, in_5, by decide, by decide +kernel, by decide +kernel⟩
theorem cw_yX2_open : Cond.code yX2_open cX2_open 2 none ∈ lwG := tm4 (List.mem_of_getElem? (i := 193) (by decide +kernel)) (by decide +kernel)
theorem im_yX2_open : Cond.instanceMethod yX2_open ∈ lwG := tm4 (List.mem_of_getElem? (i := 191) (by decide +kernel)) (by decide +kernel)
theorem se_yX2_open : Cond.selects yX2_open.cls yX2_open yX2_open ∈ lwG := tm4 (List.mem_of_getElem? (i := 192) (by decide +kernel)) (by decide +kernel)
theorem ml_11_199 : ML RX11 199 yX2_open cX2_open 2 none 1 := ⟨tm4 (List.mem_of_getElem? (i := 190) (by decide +kernel)) (by decide +kernel), cw_yX2_open, in_2, by decide, by decide +kernel, by decide +kernel⟩
theorem cw_yX3_forget : Cond.code yX3_forget cX3_forget 1 none ∈ lwG := tm4 (List.mem_of_getElem? (i := 197) (by decide +kernel)) (by decide +kernel)
theorem im_yX3_forget : Cond.instanceMethod yX3_forget ∈ lwG := tm4 (List.mem_of_getElem? (i := 195) (by decide +kernel)) (by decide +kernel)
theorem se_yX3_forget : Cond.selects yX3_forget.cls yX3_forget yX3_forget ∈ lwG := tm4 (List.mem_of_getElem? (i := 196) (by decide +kernel)) (by decide +kernel)
theorem ml_11_202 : ML RX11 202 yX3_forget cX3_forget 1 none 0 := ⟨tm4 (List.mem_of_getElem? (i := 194) (by decide +kernel)) (by decide +kernel), cw_yX3_forget, in_3, by decide, by decide +kernel, by decide +kernel⟩
theorem cw_yX11_setUpGame : Cond.code yX11_setUpGame cX11_setUpGame 1 none ∈ lwG := tm4 (List.mem_of_getElem? (i := 201) (by decide +kernel)) (by decide +kernel)
theorem im_yX11_setUpGame : Cond.instanceMethod yX11_setUpGame ∈ lwG := tm4 (List.mem_of_getElem? (i := 200) (by decide +kernel)) (by decide +kernel)
theorem se_yX11_setUpGame : Cond.selects yX11_setUpGame.cls yX11_setUpGame yX11_setUpGame ∈ lwG := lwG_in (List.mem_append_left _ (List.mem_of_getElem? (i := 27) (by decide +kernel))) (by decide +kernel)
theorem ml_11_203 : ML RX11 203 yX11_setUpGame cX11_setUpGame 1 none 0 := ⟨tm4 (List.mem_of_getElem? (i := 198) (by decide +kernel)) (by decide +kernel), cw_yX11_setUpGame, in_11, by decide, by decide +kernel, by decide +kernel⟩
theorem cw_yX2_openGame : Cond.code yX2_openGame cX2_openGame 1 none ∈ lwG := tm4 (List.mem_of_getElem? (i := 205) (by decide +kernel)) (by decide +kernel)
theorem im_yX2_openGame : Cond.instanceMethod yX2_openGame ∈ lwG := tm4 (List.mem_of_getElem? (i := 203) (by decide +kernel)) (by decide +kernel)
theorem se_yX2_openGame : Cond.selects yX2_openGame.cls yX2_openGame yX2_openGame ∈ lwG := tm4 (List.mem_of_getElem? (i := 204) (by decide +kernel)) (by decide +kernel)
theorem ml_11_295 : ML RX11 295 yX2_openGame cX2_openGame 1 none 0 := ⟨tm4 (List.mem_of_getElem? (i := 202) (by decide +kernel)) (by decide +kernel), cw_yX2_openGame, in_2, by decide, by decide +kernel, by decide +kernel⟩
theorem cw_yX2_takeFirstDice : Cond.code yX2_takeFirstDice cX2_takeFirstDice 4 none ∈ lwG := tm4 (List.mem_of_getElem? (i := 216) (by decide +kernel)) (by decide +kernel)
theorem im_yX2_takeFirstDice : Cond.instanceMethod yX2_takeFirstDice ∈ lwG := tm4 (List.mem_of_getElem? (i := 214) (by decide +kernel)) (by decide +kernel)
theorem se_yX2_takeFirstDice : Cond.selects yX2_takeFirstDice.cls yX2_takeFirstDice yX2_takeFirstDice ∈ lwG := tm4 (List.mem_of_getElem? (i := 215) (by decide +kernel)) (by decide +kernel)
theorem ml_11_209 : ML RX11 209 yX2_takeFirstDice cX2_takeFirstDice 4 none 3 := ⟨tm4 (List.mem_of_getElem? (i := 213) (by decide +kernel)) (by decide +kernel), cw_yX2_takeFirstDice, in_2, by decide, by decide +kernel, by decide +kernel⟩
theorem cw_yX2_takeDice : Cond.code yX2_takeDice cX2_takeDice 3 none ∈ lwG := tm4 (List.mem_of_getElem? (i := 220) (by decide +kernel)) (by decide +kernel)
theorem im_yX2_takeDice : Cond.instanceMethod yX2_takeDice ∈ lwG := tm4 (List.mem_of_getElem? (i := 218) (by decide +kernel)) (by decide +kernel)
theorem se_yX2_takeDice : Cond.selects yX2_takeDice.cls yX2_takeDice yX2_takeDice ∈ lwG := tm4 (List.mem_of_getElem? (i := 219) (by decide +kernel)) (by decide +kernel)
theorem ml_2_74 : ML RX2 74 yX2_takeDice cX2_takeDice 3 none 2 := ⟨tm4 (List.mem_of_getElem? (i := 217) (by decide +kernel)) (by decide +kernel), cw_yX2_takeDice, in_2, by decide, by decide +kernel, by decide +kernel⟩
theorem ml_11_213 : ML RX11 213 yX2_takeDice cX2_takeDice 3 none 2 := ⟨tm4 (List.mem_of_getElem? (i := 221) (by decide +kernel)) (by decide +kernel), cw_yX2_takeDice, in_2, by decide, by decide +kernel, by decide +kernel⟩
theorem cw_yX2_mayDouble : Cond.code yX2_mayDouble cX2_mayDouble 2 (some .boolean) ∈ lwG := tm4 (List.mem_of_getElem? (i := 233) (by decide +kernel)) (by decide +kernel)
theorem im_yX2_mayDouble : Cond.instanceMethod yX2_mayDouble ∈ lwG := tm4 (List.mem_of_getElem? (i := 231) (by decide +kernel)) (by decide +kernel)
theorem se_yX2_mayDouble : Cond.selects yX2_mayDouble.cls yX2_mayDouble yX2_mayDouble ∈ lwG := tm4 (List.mem_of_getElem? (i := 232) (by decide +kernel)) (by decide +kernel)
theorem ml_11_218 : ML RX11 218 yX2_mayDouble cX2_mayDouble 2 (some .boolean) 1 := ⟨tm4 (List.mem_of_getElem? (i := 230) (by decide +kernel)) (by decide +kernel), cw_yX2_mayDouble, in_2, by decide, by decide +kernel, by decide +kernel⟩
theorem cw_yX2_takeDouble : Cond.code yX2_takeDouble cX2_takeDouble 2 none ∈ lwG := tm5 (List.mem_of_getElem? (i := 6) (by decide +kernel)) (by decide +kernel)
theorem im_yX2_takeDouble : Cond.instanceMethod yX2_takeDouble ∈ lwG := tm5 (List.mem_of_getElem? (i := 4) (by decide +kernel)) (by decide +kernel)
theorem se_yX2_takeDouble : Cond.selects yX2_takeDouble.cls yX2_takeDouble yX2_takeDouble ∈ lwG := tm5 (List.mem_of_getElem? (i := 5) (by decide +kernel)) (by decide +kernel)
theorem ml_11_228 : ML RX11 228 yX2_takeDouble cX2_takeDouble 2 none 1 := ⟨tm5 (List.mem_of_getElem? (i := 3) (by decide +kernel)) (by decide +kernel), cw_yX2_takeDouble, in_2, by decide, by decide +kernel, by decide +kernel⟩
theorem ml_11_231 : ML RX11 231 yX2_end cX2_end 3 none 2 := ⟨tm5 (List.mem_of_getElem? (i := 7) (by decide +kernel)) (by decide +kernel), cw_yX2_end, in_2, by decide, by decide +kernel, by decide +kernel⟩
theorem cw_yX2_tell : Cond.code yX2_tell cX2_tell 2 (some .int) ∈ lwG := tm5 (List.mem_of_getElem? (i := 26) (by decide +kernel)) (by decide +kernel)
theorem im_yX2_tell : Cond.instanceMethod yX2_tell ∈ lwG := tm5 (List.mem_of_getElem? (i := 24) (by decide +kernel)) (by decide +kernel)
theorem se_yX2_tell : Cond.selects yX2_tell.cls yX2_tell yX2_tell ∈ lwG := tm5 (List.mem_of_getElem? (i := 25) (by decide +kernel)) (by decide +kernel)
theorem ml_11_236 : ML RX11 236 yX2_tell cX2_tell 2 (some .int) 1 := ⟨tm5 (List.mem_of_getElem? (i := 23) (by decide +kernel)) (by decide +kernel), cw_yX2_tell, in_2, by decide, by decide +kernel, by decide +kernel⟩
theorem cw_yX8_howMany : Cond.code yX8_howMany cX8_howMany 5 (some .int) ∈ lwG := tm5 (List.mem_of_getElem? (i := 37) (by decide +kernel)) (by decide +kernel)
theorem sm_yX8_howMany : Cond.static yX8_howMany ∈ lwG := tm5 (List.mem_of_getElem? (i := 36) (by decide +kernel)) (by decide +kernel)
theorem ml_8_55 : ML RX8 55 yX8_howMany cX8_howMany 5 (some .int) 3 := ⟨tm5 (List.mem_of_getElem? (i := 38) (by decide +kernel)) (by decide +kernel), cw_yX8_howMany, in_8, by decide, by decide +kernel, by decide +kernel⟩
theorem cw_yX11_checkStand : Cond.code yX11_checkStand cX11_checkStand 1 none ∈ lwG := tm5 (List.mem_of_getElem? (i := 48) (by decide +kernel)) (by decide +kernel)
theorem sm_yX11_checkStand : Cond.static yX11_checkStand ∈ lwG := tm5 (List.mem_of_getElem? (i := 47) (by decide +kernel)) (by decide +kernel)
theorem ml_11_244 : ML RX11 244 yX11_checkStand cX11_checkStand 1 none 1 := ⟨tm5 (List.mem_of_getElem? (i := 46) (by decide +kernel)) (by decide +kernel), cw_yX11_checkStand, in_11, by decide, by decide +kernel, by decide +kernel⟩
theorem cw_yX8_isStand : Cond.code yX8_isStand cX8_isStand 1 (some .boolean) ∈ lwG := tm5 (List.mem_of_getElem? (i := 51) (by decide +kernel)) (by decide +kernel)
theorem sm_yX8_isStand : Cond.static yX8_isStand ∈ lwG := tm5 (List.mem_of_getElem? (i := 50) (by decide +kernel)) (by decide +kernel)
theorem ml_11_318 : ML RX11 318 yX8_isStand cX8_isStand 1 (some .boolean) 1 := ⟨tm5 (List.mem_of_getElem? (i := 49) (by decide +kernel)) (by decide +kernel), cw_yX8_isStand, in_8, by decide, by decide +kernel, by decide +kernel⟩
theorem cw_yX8_menFrom : Cond.code yX8_menFrom cX8_menFrom 4 (some .int) ∈ lwG := tm5 (List.mem_of_getElem? (i := 54) (by decide +kernel)) (by decide +kernel)
theorem sm_yX8_menFrom : Cond.static yX8_menFrom ∈ lwG := tm5 (List.mem_of_getElem? (i := 53) (by decide +kernel)) (by decide +kernel)
theorem ml_8_51 : ML RX8 51 yX8_menFrom cX8_menFrom 4 (some .int) 2 := ⟨tm5 (List.mem_of_getElem? (i := 52) (by decide +kernel)) (by decide +kernel), cw_yX8_menFrom, in_8, by decide, by decide +kernel, by decide +kernel⟩
theorem cw_yX11_checkKnown : Cond.code yX11_checkKnown cX11_checkKnown 2 none ∈ lwG := tm5 (List.mem_of_getElem? (i := 59) (by decide +kernel)) (by decide +kernel)
theorem im_yX11_checkKnown : Cond.instanceMethod yX11_checkKnown ∈ lwG := tm5 (List.mem_of_getElem? (i := 58) (by decide +kernel)) (by decide +kernel)
theorem se_yX11_checkKnown : Cond.selects yX11_checkKnown.cls yX11_checkKnown yX11_checkKnown ∈ lwG := lwG_in (List.mem_append_left _ (List.mem_of_getElem? (i := 28) (by decide +kernel))) (by decide +kernel)
theorem ml_11_247 : ML RX11 247 yX11_checkKnown cX11_checkKnown 2 none 1 := ⟨tm5 (List.mem_of_getElem? (i := 56) (by decide +kernel)) (by decide +kernel), cw_yX11_checkKnown, in_11, by decide, by decide +kernel, by decide +kernel⟩
theorem cw_yX8_pips : Cond.code yX8_pips cX8_pips 3 (some .int) ∈ lwG := tm5 (List.mem_of_getElem? (i := 62) (by decide +kernel)) (by decide +kernel)
theorem sm_yX8_pips : Cond.static yX8_pips ∈ lwG := tm5 (List.mem_of_getElem? (i := 61) (by decide +kernel)) (by decide +kernel)
theorem ml_11_323 : ML RX11 323 yX8_pips cX8_pips 3 (some .int) 1 := ⟨tm5 (List.mem_of_getElem? (i := 60) (by decide +kernel)) (by decide +kernel), cw_yX8_pips, in_8, by decide, by decide +kernel, by decide +kernel⟩
theorem cw_yX8_workOut : Cond.code yX8_workOut cX8_workOut 4 none ∈ lwG := tm5 (List.mem_of_getElem? (i := 67) (by decide +kernel)) (by decide +kernel)
theorem im_yX8_workOut : Cond.instanceMethod yX8_workOut ∈ lwG := tm5 (List.mem_of_getElem? (i := 65) (by decide +kernel)) (by decide +kernel)
theorem se_yX8_workOut : Cond.selects yX8_workOut.cls yX8_workOut yX8_workOut ∈ lwG := tm5 (List.mem_of_getElem? (i := 66) (by decide +kernel)) (by decide +kernel)
theorem ml_11_250 : ML RX11 250 yX8_workOut cX8_workOut 4 none 1 := ⟨tm5 (List.mem_of_getElem? (i := 64) (by decide +kernel)) (by decide +kernel), cw_yX8_workOut, in_8, by decide, by decide +kernel, by decide +kernel⟩
theorem cw_yX8_isWorkedOut : Cond.code yX8_isWorkedOut cX8_isWorkedOut 2 (some .boolean) ∈ lwG := tm5 (List.mem_of_getElem? (i := 71) (by decide +kernel)) (by decide +kernel)
theorem im_yX8_isWorkedOut : Cond.instanceMethod yX8_isWorkedOut ∈ lwG := tm5 (List.mem_of_getElem? (i := 70) (by decide +kernel)) (by decide +kernel)
theorem se_yX8_isWorkedOut : Cond.selects yX8_isWorkedOut.cls yX8_isWorkedOut yX8_isWorkedOut ∈ lwG := lwG_in (List.mem_append_left _ (List.mem_of_getElem? (i := 29) (by decide +kernel))) (by decide +kernel)
theorem ml_8_59 : ML RX8 59 yX8_isWorkedOut cX8_isWorkedOut 2 (some .boolean) 1 := ⟨tm5 (List.mem_of_getElem? (i := 68) (by decide +kernel)) (by decide +kernel), cw_yX8_isWorkedOut, in_8, by decide, by decide +kernel, by decide +kernel⟩
theorem cw_yX8_chances : Cond.code yX8_chances cX8_chances 5 (some .long) ∈ lwG := tm5 (List.mem_of_getElem? (i := 75) (by decide +kernel)) (by decide +kernel)
theorem im_yX8_chances : Cond.instanceMethod yX8_chances ∈ lwG := tm5 (List.mem_of_getElem? (i := 73) (by decide +kernel)) (by decide +kernel)
theorem se_yX8_chances : Cond.selects yX8_chances.cls yX8_chances yX8_chances ∈ lwG := tm5 (List.mem_of_getElem? (i := 74) (by decide +kernel)) (by decide +kernel)
theorem ml_8_70 : ML RX8 70 yX8_chances cX8_chances 5 (some .long) 2 := ⟨tm5 (List.mem_of_getElem? (i := 72) (by decide +kernel)) (by decide +kernel), cw_yX8_chances, in_8, by decide, by decide +kernel, by decide +kernel⟩
theorem cw_yX8_rankOf : Cond.code yX8_rankOf cX8_rankOf 5 (some .int) ∈ lwG := tm5 (List.mem_of_getElem? (i := 79) (by decide +kernel)) (by decide +kernel)
theorem im_yX8_rankOf : Cond.instanceMethod yX8_rankOf ∈ lwG := tm5 (List.mem_of_getElem? (i := 78) (by decide +kernel)) (by decide +kernel)
theorem se_yX8_rankOf : Cond.selects yX8_rankOf.cls yX8_rankOf yX8_rankOf ∈ lwG := lwG_in (List.mem_append_left _ (List.mem_of_getElem? (i := 30) (by decide +kernel))) (by decide +kernel)
theorem ml_8_74 : ML RX8 74 yX8_rankOf cX8_rankOf 5 (some .int) 1 := ⟨tm5 (List.mem_of_getElem? (i := 76) (by decide +kernel)) (by decide +kernel), cw_yX8_rankOf, in_8, by decide, by decide +kernel, by decide +kernel⟩
theorem cw_yX8_shelfOf : Cond.code yX8_shelfOf cX8_shelfOf 3 (some (.object "BearHouse$Shelf")) ∈ lwG := tm5 (List.mem_of_getElem? (i := 83) (by decide +kernel)) (by decide +kernel)
theorem im_yX8_shelfOf : Cond.instanceMethod yX8_shelfOf ∈ lwG := tm5 (List.mem_of_getElem? (i := 82) (by decide +kernel)) (by decide +kernel)
theorem se_yX8_shelfOf : Cond.selects yX8_shelfOf.cls yX8_shelfOf yX8_shelfOf ∈ lwG := lwG_in (List.mem_append_left _ (List.mem_of_getElem? (i := 31) (by decide +kernel))) (by decide +kernel)
theorem ml_8_78 : ML RX8 78 yX8_shelfOf cX8_shelfOf 3 (some (.object "BearHouse$Shelf")) 1 := ⟨tm5 (List.mem_of_getElem? (i := 80) (by decide +kernel)) (by decide +kernel), cw_yX8_shelfOf, in_8, by decide, by decide +kernel, by decide +kernel⟩
theorem cw_yX8_cellOf : Cond.code yX8_cellOf cX8_cellOf 1 (some .int) ∈ lwG := tm5 (List.mem_of_getElem? (i := 86) (by decide +kernel)) (by decide +kernel)
theorem sm_yX8_cellOf : Cond.static yX8_cellOf ∈ lwG := tm5 (List.mem_of_getElem? (i := 85) (by decide +kernel)) (by decide +kernel)
theorem ml_8_85 : ML RX8 85 yX8_cellOf cX8_cellOf 1 (some .int) 1 := ⟨tm5 (List.mem_of_getElem? (i := 84) (by decide +kernel)) (by decide +kernel), cw_yX8_cellOf, in_8, by decide, by decide +kernel, by decide +kernel⟩
theorem cw_yX8_settle : Cond.code yX8_settle cX8_settle 4 none ∈ lwG := tm5 (List.mem_of_getElem? (i := 91) (by decide +kernel)) (by decide +kernel)
theorem im_yX8_settle : Cond.instanceMethod yX8_settle ∈ lwG := tm5 (List.mem_of_getElem? (i := 90) (by decide +kernel)) (by decide +kernel)
theorem se_yX8_settle : Cond.selects yX8_settle.cls yX8_settle yX8_settle ∈ lwG := lwG_in (List.mem_append_left _ (List.mem_of_getElem? (i := 32) (by decide +kernel))) (by decide +kernel)
theorem ml_8_64 : ML RX8 64 yX8_settle cX8_settle 4 none 1 := ⟨tm5 (List.mem_of_getElem? (i := 88) (by decide +kernel)) (by decide +kernel), cw_yX8_settle, in_8, by decide, by decide +kernel, by decide +kernel⟩
theorem ml_8_98 : ML RX8 98 yJ7_fill_d0a16 cJ7_fill_d0a16 5 none 2 := ⟨tm5 (List.mem_of_getElem? (i := 93) (by decide +kernel)) (by decide +kernel), cw_yJ7_fill_d0a16, in_J7, by decide, by decide +kernel, by decide +kernel⟩
theorem cw_yX8_pick : Cond.code yX8_pick cX8_pick 4 (some .int) ∈ lwG := tm5 (List.mem_of_getElem? (i := 97) (by decide +kernel)) (by decide +kernel)
theorem im_yX8_pick : Cond.instanceMethod yX8_pick ∈ lwG := tm5 (List.mem_of_getElem? (i := 95) (by decide +kernel)) (by decide +kernel)
theorem se_yX8_pick : Cond.selects yX8_pick.cls yX8_pick yX8_pick ∈ lwG := tm5 (List.mem_of_getElem? (i := 96) (by decide +kernel)) (by decide +kernel)
theorem ml_8_104 : ML RX8 104 yX8_pick cX8_pick 4 (some .int) 3 := ⟨tm5 (List.mem_of_getElem? (i := 94) (by decide +kernel)) (by decide +kernel), cw_yX8_pick, in_8, by decide, by decide +kernel, by decide +kernel⟩
theorem cw_yX8_bearAlike : Cond.code yX8_bearAlike cX8_bearAlike 6 none ∈ lwG := tm5 (List.mem_of_getElem? (i := 101) (by decide +kernel)) (by decide +kernel)
theorem im_yX8_bearAlike : Cond.instanceMethod yX8_bearAlike ∈ lwG := tm5 (List.mem_of_getElem? (i := 100) (by decide +kernel)) (by decide +kernel)
theorem se_yX8_bearAlike : Cond.selects yX8_bearAlike.cls yX8_bearAlike yX8_bearAlike ∈ lwG := lwG_in (List.mem_append_left _ (List.mem_of_getElem? (i := 33) (by decide +kernel))) (by decide +kernel)
theorem ml_8_125 : ML RX8 125 yX8_bearAlike cX8_bearAlike 6 none 4 := ⟨tm5 (List.mem_of_getElem? (i := 98) (by decide +kernel)) (by decide +kernel), cw_yX8_bearAlike, in_8, by decide, by decide +kernel, by decide +kernel⟩
theorem cw_yX8_consider : Cond.code yX8_consider cX8_consider 6 none ∈ lwG := tm5 (List.mem_of_getElem? (i := 105) (by decide +kernel)) (by decide +kernel)
theorem im_yX8_consider : Cond.instanceMethod yX8_consider ∈ lwG := tm5 (List.mem_of_getElem? (i := 104) (by decide +kernel)) (by decide +kernel)
theorem se_yX8_consider : Cond.selects yX8_consider.cls yX8_consider yX8_consider ∈ lwG := lwG_in (List.mem_append_left _ (List.mem_of_getElem? (i := 34) (by decide +kernel))) (by decide +kernel)
theorem ml_8_133 : ML RX8 133 yX8_consider cX8_consider 6 none 1 := ⟨tm5 (List.mem_of_getElem? (i := 102) (by decide +kernel)) (by decide +kernel), cw_yX8_consider, in_8, by decide, by decide +kernel, by decide +kernel⟩
theorem cw_yX8_compareRolls : Cond.code yX8_compareRolls cX8_compareRolls 5 (some .int) ∈ lwG := tm5 (List.mem_of_getElem? (i := 108) (by decide +kernel)) (by decide +kernel)
theorem sm_yX8_compareRolls : Cond.static yX8_compareRolls ∈ lwG := tm5 (List.mem_of_getElem? (i := 107) (by decide +kernel)) (by decide +kernel)
theorem ml_8_150 : ML RX8 150 yX8_compareRolls cX8_compareRolls 5 (some .int) 4 := ⟨tm5 (List.mem_of_getElem? (i := 106) (by decide +kernel)) (by decide +kernel), cw_yX8_compareRolls, in_8, by decide, by decide +kernel, by decide +kernel⟩
theorem cw_yX8_canBear : Cond.code yX8_canBear cX8_canBear 3 (some .boolean) ∈ lwG := tm5 (List.mem_of_getElem? (i := 111) (by decide +kernel)) (by decide +kernel)
theorem sm_yX8_canBear : Cond.static yX8_canBear ∈ lwG := tm5 (List.mem_of_getElem? (i := 110) (by decide +kernel)) (by decide +kernel)
theorem ml_8_136 : ML RX8 136 yX8_canBear cX8_canBear 3 (some .boolean) 3 := ⟨tm5 (List.mem_of_getElem? (i := 109) (by decide +kernel)) (by decide +kernel), cw_yX8_canBear, in_8, by decide, by decide +kernel, by decide +kernel⟩
theorem cw_yX8_bear : Cond.code yX8_bear cX8_bear 4 (some .int) ∈ lwG := tm5 (List.mem_of_getElem? (i := 114) (by decide +kernel)) (by decide +kernel)
theorem sm_yX8_bear : Cond.static yX8_bear ∈ lwG := tm5 (List.mem_of_getElem? (i := 113) (by decide +kernel)) (by decide +kernel)
theorem ml_8_140 : ML RX8 140 yX8_bear cX8_bear 4 (some .int) 3 := ⟨tm5 (List.mem_of_getElem? (i := 112) (by decide +kernel)) (by decide +kernel), cw_yX8_bear, in_8, by decide, by decide +kernel, by decide +kernel⟩
theorem cw_yX8_bearByBoth : Cond.code yX8_bearByBoth cX8_bearByBoth 7 none ∈ lwG := tm5 (List.mem_of_getElem? (i := 118) (by decide +kernel)) (by decide +kernel)
theorem im_yX8_bearByBoth : Cond.instanceMethod yX8_bearByBoth ∈ lwG := tm5 (List.mem_of_getElem? (i := 117) (by decide +kernel)) (by decide +kernel)
theorem se_yX8_bearByBoth : Cond.selects yX8_bearByBoth.cls yX8_bearByBoth yX8_bearByBoth ∈ lwG := lwG_in (List.mem_append_left _ (List.mem_of_getElem? (i := 35) (by decide +kernel))) (by decide +kernel)
theorem ml_8_129 : ML RX8 129 yX8_bearByBoth cX8_bearByBoth 7 none 3 := ⟨tm5 (List.mem_of_getElem? (i := 115) (by decide +kernel)) (by decide +kernel), cw_yX8_bearByBoth, in_8, by decide, by decide +kernel, by decide +kernel⟩
theorem cw_yX8_count : Cond.code yX8_count cX8_count 7 none ∈ lwG := tm5 (List.mem_of_getElem? (i := 122) (by decide +kernel)) (by decide +kernel)
theorem im_yX8_count : Cond.instanceMethod yX8_count ∈ lwG := tm5 (List.mem_of_getElem? (i := 121) (by decide +kernel)) (by decide +kernel)
theorem se_yX8_count : Cond.selects yX8_count.cls yX8_count yX8_count ∈ lwG := lwG_in (List.mem_append_left _ (List.mem_of_getElem? (i := 36) (by decide +kernel))) (by decide +kernel)
theorem ml_8_107 : ML RX8 107 yX8_count cX8_count 7 none 2 := ⟨tm5 (List.mem_of_getElem? (i := 119) (by decide +kernel)) (by decide +kernel), cw_yX8_count, in_8, by decide, by decide +kernel, by decide +kernel⟩
theorem cw_yX10_add : Cond.code yX10_add cX10_add 7 none ∈ lwG := tm5 (List.mem_of_getElem? (i := 126) (by decide +kernel)) (by decide +kernel)
theorem im_yX10_add : Cond.instanceMethod yX10_add ∈ lwG := tm5 (List.mem_of_getElem? (i := 124) (by decide +kernel)) (by decide +kernel)
theorem se_yX10_add : Cond.selects yX10_add.cls yX10_add yX10_add ∈ lwG := tm5 (List.mem_of_getElem? (i := 125) (by decide +kernel)) (by decide +kernel)
theorem ml_8_88 : ML RX8 88 yX10_add cX10_add 7 none 3 := ⟨tm5 (List.mem_of_getElem? (i := 123) (by decide +kernel)) (by decide +kernel), cw_yX10_add, in_10, by decide, by decide +kernel, by decide +kernel⟩
theorem cw_yX10_divide : Cond.code yX10_divide cX10_divide 7 none ∈ lwG := tm5 (List.mem_of_getElem? (i := 130) (by decide +kernel)) (by decide +kernel)
theorem im_yX10_divide : Cond.instanceMethod yX10_divide ∈ lwG := tm5 (List.mem_of_getElem? (i := 128) (by decide +kernel)) (by decide +kernel)
theorem se_yX10_divide : Cond.selects yX10_divide.cls yX10_divide yX10_divide ∈ lwG := tm5 (List.mem_of_getElem? (i := 129) (by decide +kernel)) (by decide +kernel)
theorem ml_8_111 : ML RX8 111 yX10_divide cX10_divide 7 none 1 := ⟨tm5 (List.mem_of_getElem? (i := 127) (by decide +kernel)) (by decide +kernel), cw_yX10_divide, in_10, by decide, by decide +kernel, by decide +kernel⟩
theorem cw_yX8_store : Cond.code yX8_store cX8_store 5 none ∈ lwG := tm5 (List.mem_of_getElem? (i := 134) (by decide +kernel)) (by decide +kernel)
theorem im_yX8_store : Cond.instanceMethod yX8_store ∈ lwG := tm5 (List.mem_of_getElem? (i := 133) (by decide +kernel)) (by decide +kernel)
theorem se_yX8_store : Cond.selects yX8_store.cls yX8_store yX8_store ∈ lwG := lwG_in (List.mem_append_left _ (List.mem_of_getElem? (i := 37) (by decide +kernel))) (by decide +kernel)
theorem ml_8_117 : ML RX8 117 yX8_store cX8_store 5 none 1 := ⟨tm5 (List.mem_of_getElem? (i := 131) (by decide +kernel)) (by decide +kernel), cw_yX8_store, in_8, by decide, by decide +kernel, by decide +kernel⟩
theorem cw_yX8_following : Cond.code yX8_following cX8_following 4 (some .int) ∈ lwG := tm5 (List.mem_of_getElem? (i := 147) (by decide +kernel)) (by decide +kernel)
theorem sm_yX8_following : Cond.static yX8_following ∈ lwG := tm5 (List.mem_of_getElem? (i := 146) (by decide +kernel)) (by decide +kernel)
theorem ml_8_67 : ML RX8 67 yX8_following cX8_following 4 (some .int) 2 := ⟨tm5 (List.mem_of_getElem? (i := 145) (by decide +kernel)) (by decide +kernel), cw_yX8_following, in_8, by decide, by decide +kernel, by decide +kernel⟩
theorem cw_yX8_putRolls : Cond.code yX8_putRolls cX8_putRolls 5 none ∈ lwG := tm5 (List.mem_of_getElem? (i := 151) (by decide +kernel)) (by decide +kernel)
theorem im_yX8_putRolls : Cond.instanceMethod yX8_putRolls ∈ lwG := tm5 (List.mem_of_getElem? (i := 149) (by decide +kernel)) (by decide +kernel)
theorem se_yX8_putRolls : Cond.selects yX8_putRolls.cls yX8_putRolls yX8_putRolls ∈ lwG := tm5 (List.mem_of_getElem? (i := 150) (by decide +kernel)) (by decide +kernel)
theorem ml_11_256 : ML RX11 256 yX8_putRolls cX8_putRolls 5 none 2 := ⟨tm5 (List.mem_of_getElem? (i := 148) (by decide +kernel)) (by decide +kernel), cw_yX8_putRolls, in_8, by decide, by decide +kernel, by decide +kernel⟩
theorem cw_yX4_print : Cond.code yX4_print cX4_print 3 none ∈ lwG := tm5 (List.mem_of_getElem? (i := 155) (by decide +kernel)) (by decide +kernel)
theorem im_yX4_print : Cond.instanceMethod yX4_print ∈ lwG := tm5 (List.mem_of_getElem? (i := 153) (by decide +kernel)) (by decide +kernel)
theorem se_yX4_print : Cond.selects yX4_print.cls yX4_print yX4_print ∈ lwG := tm5 (List.mem_of_getElem? (i := 154) (by decide +kernel)) (by decide +kernel)
theorem ml_11_260 : ML RX11 260 yX4_print cX4_print 3 none 1 := ⟨tm5 (List.mem_of_getElem? (i := 152) (by decide +kernel)) (by decide +kernel), cw_yX4_print, in_4, by decide, by decide +kernel, by decide +kernel⟩
theorem ml_4_33 : ML RX4 33 yX10_set cX10_set 3 none 1 := ⟨tm5 (List.mem_of_getElem? (i := 156) (by decide +kernel)) (by decide +kernel), cw_yX10_set, in_10, by decide, by decide +kernel, by decide +kernel⟩
theorem cw_yX10_isZero : Cond.code yX10_isZero cX10_isZero 2 (some .boolean) ∈ lwG := tm5 (List.mem_of_getElem? (i := 160) (by decide +kernel)) (by decide +kernel)
theorem im_yX10_isZero : Cond.instanceMethod yX10_isZero ∈ lwG := tm5 (List.mem_of_getElem? (i := 158) (by decide +kernel)) (by decide +kernel)
theorem se_yX10_isZero : Cond.selects yX10_isZero.cls yX10_isZero yX10_isZero ∈ lwG := tm5 (List.mem_of_getElem? (i := 159) (by decide +kernel)) (by decide +kernel)
theorem ml_4_37 : ML RX4 37 yX10_isZero cX10_isZero 2 (some .boolean) 0 := ⟨tm5 (List.mem_of_getElem? (i := 157) (by decide +kernel)) (by decide +kernel), cw_yX10_isZero, in_10, by decide, by decide +kernel, by decide +kernel⟩
theorem cw_yX4_reduce : Cond.code yX4_reduce cX4_reduce 5 none ∈ lwG := tm5 (List.mem_of_getElem? (i := 164) (by decide +kernel)) (by decide +kernel)
theorem im_yX4_reduce : Cond.instanceMethod yX4_reduce ∈ lwG := tm5 (List.mem_of_getElem? (i := 163) (by decide +kernel)) (by decide +kernel)
theorem se_yX4_reduce : Cond.selects yX4_reduce.cls yX4_reduce yX4_reduce ∈ lwG := lwG_in (List.mem_append_left _ (List.mem_of_getElem? (i := 38) (by decide +kernel))) (by decide +kernel)
theorem ml_4_41 : ML RX4 41 yX4_reduce cX4_reduce 5 none 2 := ⟨tm5 (List.mem_of_getElem? (i := 161) (by decide +kernel)) (by decide +kernel), cw_yX4_reduce, in_4, by decide, by decide +kernel, by decide +kernel⟩
theorem cw_yX10_remainder : Cond.code yX10_remainder cX10_remainder 5 (some .int) ∈ lwG := tm5 (List.mem_of_getElem? (i := 168) (by decide +kernel)) (by decide +kernel)
theorem im_yX10_remainder : Cond.instanceMethod yX10_remainder ∈ lwG := tm5 (List.mem_of_getElem? (i := 166) (by decide +kernel)) (by decide +kernel)
theorem se_yX10_remainder : Cond.selects yX10_remainder.cls yX10_remainder yX10_remainder ∈ lwG := tm5 (List.mem_of_getElem? (i := 167) (by decide +kernel)) (by decide +kernel)
theorem ml_4_56 : ML RX4 56 yX10_remainder cX10_remainder 5 (some .int) 1 := ⟨tm5 (List.mem_of_getElem? (i := 165) (by decide +kernel)) (by decide +kernel), cw_yX10_remainder, in_10, by decide, by decide +kernel, by decide +kernel⟩
theorem ml_4_60 : ML RX4 60 yX10_divide cX10_divide 7 none 1 := ⟨tm5 (List.mem_of_getElem? (i := 169) (by decide +kernel)) (by decide +kernel), cw_yX10_divide, in_10, by decide, by decide +kernel, by decide +kernel⟩
theorem ml_4_63 : ML RX4 63 yX10_multiply cX10_multiply 5 none 1 := ⟨tm5 (List.mem_of_getElem? (i := 170) (by decide +kernel)) (by decide +kernel), cw_yX10_multiply, in_10, by decide, by decide +kernel, by decide +kernel⟩
theorem cw_yX10_isOne : Cond.code yX10_isOne cX10_isOne 2 (some .boolean) ∈ lwG := tm5 (List.mem_of_getElem? (i := 174) (by decide +kernel)) (by decide +kernel)
theorem im_yX10_isOne : Cond.instanceMethod yX10_isOne ∈ lwG := tm5 (List.mem_of_getElem? (i := 172) (by decide +kernel)) (by decide +kernel)
theorem se_yX10_isOne : Cond.selects yX10_isOne.cls yX10_isOne yX10_isOne ∈ lwG := tm5 (List.mem_of_getElem? (i := 173) (by decide +kernel)) (by decide +kernel)
theorem ml_4_45 : ML RX4 45 yX10_isOne cX10_isOne 2 (some .boolean) 0 := ⟨tm5 (List.mem_of_getElem? (i := 171) (by decide +kernel)) (by decide +kernel), cw_yX10_isOne, in_10, by decide, by decide +kernel, by decide +kernel⟩
theorem cw_yX4_printWhole : Cond.code yX4_printWhole cX4_printWhole 4 none ∈ lwG := tm5 (List.mem_of_getElem? (i := 178) (by decide +kernel)) (by decide +kernel)
theorem im_yX4_printWhole : Cond.instanceMethod yX4_printWhole ∈ lwG := tm5 (List.mem_of_getElem? (i := 177) (by decide +kernel)) (by decide +kernel)
theorem se_yX4_printWhole : Cond.selects yX4_printWhole.cls yX4_printWhole yX4_printWhole ∈ lwG := lwG_in (List.mem_append_left _ (List.mem_of_getElem? (i := 39) (by decide +kernel))) (by decide +kernel)
theorem ml_4_48 : ML RX4 48 yX4_printWhole cX4_printWhole 4 none 1 := ⟨tm5 (List.mem_of_getElem? (i := 175) (by decide +kernel)) (by decide +kernel), cw_yX4_printWhole, in_4, by decide, by decide +kernel, by decide +kernel⟩
theorem ml_4_52 : ML RX4 52 yX1_add cX1_add 2 none 1 := ⟨tm5 (List.mem_of_getElem? (i := 179) (by decide +kernel)) (by decide +kernel), cw_yX1_add, in_1, by decide, by decide +kernel, by decide +kernel⟩
theorem ml_11_263 : ML RX11 263 yX8_pick cX8_pick 4 (some .int) 3 := ⟨tm5 (List.mem_of_getElem? (i := 187) (by decide +kernel)) (by decide +kernel), cw_yX8_pick, in_8, by decide, by decide +kernel, by decide +kernel⟩
theorem ml_11_268 : ML RX11 268 yX8_chances cX8_chances 5 (some .long) 2 := ⟨tm5 (List.mem_of_getElem? (i := 196) (by decide +kernel)) (by decide +kernel), cw_yX8_chances, in_8, by decide, by decide +kernel, by decide +kernel⟩
theorem ml_11_272 : ML RX11 272 yX10_set cX10_set 3 none 1 := ⟨tm5 (List.mem_of_getElem? (i := 197) (by decide +kernel)) (by decide +kernel), cw_yX10_set, in_10, by decide, by decide +kernel, by decide +kernel⟩
theorem cw_yX8_isSure : Cond.code yX8_isSure cX8_isSure 2 (some .boolean) ∈ lwG := tm5 (List.mem_of_getElem? (i := 209) (by decide +kernel)) (by decide +kernel)
theorem im_yX8_isSure : Cond.instanceMethod yX8_isSure ∈ lwG := tm5 (List.mem_of_getElem? (i := 207) (by decide +kernel)) (by decide +kernel)
theorem se_yX8_isSure : Cond.selects yX8_isSure.cls yX8_isSure yX8_isSure ∈ lwG := tm5 (List.mem_of_getElem? (i := 208) (by decide +kernel)) (by decide +kernel)
theorem ml_11_278 : ML RX11 278 yX8_isSure cX8_isSure 2 (some .boolean) 1 := ⟨tm5 (List.mem_of_getElem? (i := 206) (by decide +kernel)) (by decide +kernel), cw_yX8_isSure, in_8, by decide, by decide +kernel, by decide +kernel⟩
theorem cw_yX8_putRace : Cond.code yX8_putRace cX8_putRace 11 none ∈ lwG := tm5 (List.mem_of_getElem? (i := 230) (by decide +kernel)) (by decide +kernel)
theorem im_yX8_putRace : Cond.instanceMethod yX8_putRace ∈ lwG := tm5 (List.mem_of_getElem? (i := 228) (by decide +kernel)) (by decide +kernel)
theorem se_yX8_putRace : Cond.selects yX8_putRace.cls yX8_putRace yX8_putRace ∈ lwG := tm5 (List.mem_of_getElem? (i := 229) (by decide +kernel)) (by decide +kernel)
theorem ml_11_288 : ML RX11 288 yX8_putRace cX8_putRace 11 none 3 := ⟨tm5 (List.mem_of_getElem? (i := 227) (by decide +kernel)) (by decide +kernel), cw_yX8_putRace, in_8, by decide, by decide +kernel, by decide +kernel⟩
theorem cw_yX10_addProduct : Cond.code yX10_addProduct cX10_addProduct 7 none ∈ lwG := tm5 (List.mem_of_getElem? (i := 234) (by decide +kernel)) (by decide +kernel)
theorem im_yX10_addProduct : Cond.instanceMethod yX10_addProduct ∈ lwG := tm5 (List.mem_of_getElem? (i := 232) (by decide +kernel)) (by decide +kernel)
theorem se_yX10_addProduct : Cond.selects yX10_addProduct.cls yX10_addProduct yX10_addProduct ∈ lwG := tm5 (List.mem_of_getElem? (i := 233) (by decide +kernel)) (by decide +kernel)
theorem ml_8_154 : ML RX8 154 yX10_addProduct cX10_addProduct 7 none 2 := ⟨tm5 (List.mem_of_getElem? (i := 231) (by decide +kernel)) (by decide +kernel), cw_yX10_addProduct, in_10, by decide, by decide +kernel, by decide +kernel⟩
theorem kc_8_41 : Cond.constantLong RX8 41 (36 : Int64) ∈ lwG := tm2 (List.mem_of_getElem? (i := 22) (by decide +kernel)) (by decide +kernel)
theorem kc_10_19 : Cond.constantLong RX10 19 (2147483647 : Int64) ∈ lwG := tm2 (List.mem_of_getElem? (i := 30) (by decide +kernel)) (by decide +kernel)
theorem kc_8_63 : Cond.constant RX8 63 (54264 : Int32) ∈ lwG := tm5 (List.mem_of_getElem? (i := 87) (by decide +kernel)) (by decide +kernel)
