theorem it_11 : Cond.instantiable (RR 11) (NN 11) ∈ lwG := tm1 (List.mem_of_getElem? (i := 26) (by decide +kernel)) (by decide +kernel)
theorem ii_11 : Cond.initialized (RR 11) ∈ lwG := in_11
theorem oi_11 : Cond.methodLink RX11 1 Lib.objectInit ∈ lwG := tm1 (List.mem_of_getElem? (i := 30) (by decide +kernel)) (by decide +kernel)
theorem oi_i : Cond.instanceMethod Lib.objectInit ∈ lwG := tm1 (List.mem_of_getElem? (i := 31) (by decide +kernel)) (by decide +kernel)
theorem oi_c : Cond.code Lib.objectInit ⟨#[0xb1]⟩ 1 none ∈ lwG := tm1 (List.mem_of_getElem? (i := 32) (by decide +kernel)) (by decide +kernel)
theorem cl_11_7 : Cond.classLink RX11 7 (RR 1) ∈ lwG := tm1 (List.mem_of_getElem? (i := 33) (by decide +kernel)) (by decide +kernel)
theorem it_1 : Cond.instantiable (RR 1) (NN 1) ∈ lwG := tm1 (List.mem_of_getElem? (i := 34) (by decide +kernel)) (by decide +kernel)
theorem ii_1 : Cond.initialized (RR 1) ∈ lwG := in_1
theorem oi_1 : Cond.methodLink RX1 3 Lib.objectInit ∈ lwG := tm1 (List.mem_of_getElem? (i := 38) (by decide +kernel)) (by decide +kernel)
theorem ac_int : Cond.arrayClass .int ∈ lwG := tm1 (List.mem_of_getElem? (i := 48) (by decide +kernel)) (by decide +kernel)
theorem cl_11_19 : Cond.classLink RX11 19 (RR 0) ∈ lwG := tm1 (List.mem_of_getElem? (i := 49) (by decide +kernel)) (by decide +kernel)
theorem it_0 : Cond.instantiable (RR 0) (NN 0) ∈ lwG := tm1 (List.mem_of_getElem? (i := 50) (by decide +kernel)) (by decide +kernel)
theorem ii_0 : Cond.initialized (RR 0) ∈ lwG := in_0
theorem oi_0 : Cond.methodLink RX0 3 Lib.objectInit ∈ lwG := tm1 (List.mem_of_getElem? (i := 54) (by decide +kernel)) (by decide +kernel)
theorem cl_11_26 : Cond.classLink RX11 26 (RR 3) ∈ lwG := tm1 (List.mem_of_getElem? (i := 66) (by decide +kernel)) (by decide +kernel)
theorem it_3 : Cond.instantiable (RR 3) (NN 3) ∈ lwG := tm1 (List.mem_of_getElem? (i := 67) (by decide +kernel)) (by decide +kernel)
theorem ii_3 : Cond.initialized (RR 3) ∈ lwG := in_3
theorem oi_3 : Cond.methodLink RX3 1 Lib.objectInit ∈ lwG := tm1 (List.mem_of_getElem? (i := 71) (by decide +kernel)) (by decide +kernel)
theorem cl_3_9 : Cond.classLink RX3 9 (RR 0) ∈ lwG := tm1 (List.mem_of_getElem? (i := 72) (by decide +kernel)) (by decide +kernel)
theorem cl_11_33 : Cond.classLink RX11 33 (RR 5) ∈ lwG := tm1 (List.mem_of_getElem? (i := 84) (by decide +kernel)) (by decide +kernel)
theorem it_5 : Cond.instantiable (RR 5) (NN 5) ∈ lwG := tm1 (List.mem_of_getElem? (i := 85) (by decide +kernel)) (by decide +kernel)
theorem ii_5 : Cond.initialized (RR 5) ∈ lwG := in_5
theorem oi_5 : Cond.methodLink RX5 3 Lib.objectInit ∈ lwG := tm1 (List.mem_of_getElem? (i := 89) (by decide +kernel)) (by decide +kernel)
theorem cl_11_42 : Cond.classLink RX11 42 (RR 9) ∈ lwG := tm1 (List.mem_of_getElem? (i := 122) (by decide +kernel)) (by decide +kernel)
theorem it_9 : Cond.instantiable (RR 9) (NN 9) ∈ lwG := tm1 (List.mem_of_getElem? (i := 123) (by decide +kernel)) (by decide +kernel)
theorem ii_9 : Cond.initialized (RR 9) ∈ lwG := in_9
theorem oi_9 : Cond.methodLink RX9 3 Lib.objectInit ∈ lwG := tm1 (List.mem_of_getElem? (i := 127) (by decide +kernel)) (by decide +kernel)
theorem cl_9_9 : Cond.classLink RX9 9 (RR 0) ∈ lwG := tm1 (List.mem_of_getElem? (i := 128) (by decide +kernel)) (by decide +kernel)
theorem ac_boolean : Cond.arrayClass .boolean ∈ lwG := tm1 (List.mem_of_getElem? (i := 154) (by decide +kernel)) (by decide +kernel)
theorem cl_11_51 : Cond.classLink RX11 51 (RR 6) ∈ lwG := tm1 (List.mem_of_getElem? (i := 155) (by decide +kernel)) (by decide +kernel)
theorem it_6 : Cond.instantiable (RR 6) (NN 6) ∈ lwG := tm1 (List.mem_of_getElem? (i := 156) (by decide +kernel)) (by decide +kernel)
theorem ii_6 : Cond.initialized (RR 6) ∈ lwG := in_6
theorem oi_6 : Cond.methodLink RX6 3 Lib.objectInit ∈ lwG := tm1 (List.mem_of_getElem? (i := 160) (by decide +kernel)) (by decide +kernel)
theorem ac_long : Cond.arrayClass .long ∈ lwG := tm1 (List.mem_of_getElem? (i := 191) (by decide +kernel)) (by decide +kernel)
theorem cl_11_60 : Cond.classLink RX11 60 (RR 2) ∈ lwG := tm1 (List.mem_of_getElem? (i := 192) (by decide +kernel)) (by decide +kernel)
theorem it_2 : Cond.instantiable (RR 2) (NN 2) ∈ lwG := tm1 (List.mem_of_getElem? (i := 193) (by decide +kernel)) (by decide +kernel)
theorem ii_2 : Cond.initialized (RR 2) ∈ lwG := in_2
theorem oi_2 : Cond.methodLink RX2 3 Lib.objectInit ∈ lwG := tm1 (List.mem_of_getElem? (i := 197) (by decide +kernel)) (by decide +kernel)
theorem cl_11_67 : Cond.classLink RX11 67 (RR 8) ∈ lwG := tm2 (List.mem_of_getElem? (i := 3) (by decide +kernel)) (by decide +kernel)
theorem it_8 : Cond.instantiable (RR 8) (NN 8) ∈ lwG := tm2 (List.mem_of_getElem? (i := 4) (by decide +kernel)) (by decide +kernel)
theorem ii_8 : Cond.initialized (RR 8) ∈ lwG := in_8
theorem oi_8 : Cond.methodLink RX8 7 Lib.objectInit ∈ lwG := tm2 (List.mem_of_getElem? (i := 8) (by decide +kernel)) (by decide +kernel)
theorem cl_8_3 : Cond.classLink RX8 3 (RR 7) ∈ lwG := tm2 (List.mem_of_getElem? (i := 9) (by decide +kernel)) (by decide +kernel)
theorem cl_8_28 : Cond.classLink RX8 28 (RR 10) ∈ lwG := tm2 (List.mem_of_getElem? (i := 11) (by decide +kernel)) (by decide +kernel)
theorem it_10 : Cond.instantiable (RR 10) (NN 10) ∈ lwG := tm2 (List.mem_of_getElem? (i := 12) (by decide +kernel)) (by decide +kernel)
theorem ii_10 : Cond.initialized (RR 10) ∈ lwG := in_10
theorem oi_10 : Cond.methodLink RX10 3 Lib.objectInit ∈ lwG := tm2 (List.mem_of_getElem? (i := 16) (by decide +kernel)) (by decide +kernel)
theorem cl_11_74 : Cond.classLink RX11 74 (RR 4) ∈ lwG := tm2 (List.mem_of_getElem? (i := 66) (by decide +kernel)) (by decide +kernel)
theorem it_4 : Cond.instantiable (RR 4) (NN 4) ∈ lwG := tm2 (List.mem_of_getElem? (i := 67) (by decide +kernel)) (by decide +kernel)
theorem ii_4 : Cond.initialized (RR 4) ∈ lwG := in_4
theorem oi_4 : Cond.methodLink RX4 1 Lib.objectInit ∈ lwG := tm2 (List.mem_of_getElem? (i := 71) (by decide +kernel)) (by decide +kernel)
theorem cl_4_7 : Cond.classLink RX4 7 (RR 10) ∈ lwG := tm2 (List.mem_of_getElem? (i := 72) (by decide +kernel)) (by decide +kernel)
theorem it_7 : Cond.instantiable (RR 7) (NN 7) ∈ lwG := tm5 (List.mem_of_getElem? (i := 135) (by decide +kernel)) (by decide +kernel)
theorem ii_7 : Cond.initialized (RR 7) ∈ lwG := in_7
theorem oi_7 : Cond.methodLink RX7 5 Lib.objectInit ∈ lwG := tm5 (List.mem_of_getElem? (i := 139) (by decide +kernel)) (by decide +kernel)
theorem it_12 : Cond.instantiable (RR 12) (NN 12) ∈ lwG := tm6 (List.mem_of_getElem? (i := 0) (by decide +kernel)) (by decide +kernel)
theorem ii_12 : Cond.initialized (RR 12) ∈ lwG := in_12
theorem oi_12 : Cond.methodLink RX12 7 Lib.objectInit ∈ lwG := tm6 (List.mem_of_getElem? (i := 4) (by decide +kernel)) (by decide +kernel)
theorem cw_yX1_init : Cond.code yX1_init cX1_init 1 none ∈ lwG := tm1 (List.mem_of_getElem? (i := 37) (by decide +kernel)) (by decide +kernel)
theorem im_yX1_init : Cond.instanceMethod yX1_init ∈ lwG := tm1 (List.mem_of_getElem? (i := 36) (by decide +kernel)) (by decide +kernel)
theorem mn_11_9 : MN RX11 9 yX1_init cX1_init 1 none 0 := ⟨List.mem_of_getElem? (i := 0) rfl, cw_yX1_init, in_1, by decide, by decide +kernel, by decide +kernel⟩
theorem cw_yX0_init : Cond.code yX0_init cX0_init 1 none ∈ lwG := tm1 (List.mem_of_getElem? (i := 53) (by decide +kernel)) (by decide +kernel)
theorem im_yX0_init : Cond.instanceMethod yX0_init ∈ lwG := tm1 (List.mem_of_getElem? (i := 52) (by decide +kernel)) (by decide +kernel)
theorem mn_11_21 : MN RX11 21 yX0_init cX0_init 1 none 0 := ⟨List.mem_of_getElem? (i := 1) rfl, cw_yX0_init, in_0, by decide, by decide +kernel, by decide +kernel⟩
theorem cw_yX3_init : Cond.code yX3_init cX3_init 1 none ∈ lwG := tm1 (List.mem_of_getElem? (i := 70) (by decide +kernel)) (by decide +kernel)
theorem im_yX3_init : Cond.instanceMethod yX3_init ∈ lwG := tm1 (List.mem_of_getElem? (i := 69) (by decide +kernel)) (by decide +kernel)
theorem mn_11_28 : MN RX11 28 yX3_init cX3_init 1 none 0 := ⟨List.mem_of_getElem? (i := 2) rfl, cw_yX3_init, in_3, by decide, by decide +kernel, by decide +kernel⟩
theorem mn_9_11 : MN RX9 11 yX0_init cX0_init 1 none 0 := ⟨List.mem_of_getElem? (i := 3) rfl, cw_yX0_init, in_0, by decide, by decide +kernel, by decide +kernel⟩
theorem cw_yX2_init : Cond.code yX2_init cX2_init 1 none ∈ lwG := tm1 (List.mem_of_getElem? (i := 196) (by decide +kernel)) (by decide +kernel)
theorem im_yX2_init : Cond.instanceMethod yX2_init ∈ lwG := tm1 (List.mem_of_getElem? (i := 195) (by decide +kernel)) (by decide +kernel)
theorem mn_11_62 : MN RX11 62 yX2_init cX2_init 1 none 0 := ⟨List.mem_of_getElem? (i := 4) rfl, cw_yX2_init, in_2, by decide, by decide +kernel, by decide +kernel⟩
theorem cw_yX10_init : Cond.code yX10_init cX10_init 1 none ∈ lwG := tm2 (List.mem_of_getElem? (i := 15) (by decide +kernel)) (by decide +kernel)
theorem im_yX10_init : Cond.instanceMethod yX10_init ∈ lwG := tm2 (List.mem_of_getElem? (i := 14) (by decide +kernel)) (by decide +kernel)
theorem mn_8_30 : MN RX8 30 yX10_init cX10_init 1 none 0 := ⟨List.mem_of_getElem? (i := 5) rfl, cw_yX10_init, in_10, by decide, by decide +kernel, by decide +kernel⟩
theorem mn_4_9 : MN RX4 9 yX10_init cX10_init 1 none 0 := ⟨List.mem_of_getElem? (i := 6) rfl, cw_yX10_init, in_10, by decide, by decide +kernel, by decide +kernel⟩
theorem mn_3_19 : MN RX3 19 yX0_init cX0_init 1 none 0 := ⟨List.mem_of_getElem? (i := 7) rfl, cw_yX0_init, in_0, by decide, by decide +kernel, by decide +kernel⟩
theorem mn_11_241 : MN RX11 241 yX8_howMany cX8_howMany 5 (some .int) 3 := ⟨List.mem_of_getElem? (i := 8) rfl, cw_yX8_howMany, in_8, by decide, by decide +kernel, by decide +kernel⟩
theorem cw_yX7_init : Cond.code yX7_init cX7_init 1 none ∈ lwG := tm5 (List.mem_of_getElem? (i := 138) (by decide +kernel)) (by decide +kernel)
theorem im_yX7_init : Cond.instanceMethod yX7_init ∈ lwG := tm5 (List.mem_of_getElem? (i := 137) (by decide +kernel)) (by decide +kernel)
theorem mn_8_120 : MN RX8 120 yX7_init cX7_init 1 none 0 := ⟨List.mem_of_getElem? (i := 9) rfl, cw_yX7_init, in_7, by decide, by decide +kernel, by decide +kernel⟩