/-! the law: words and rows -/
/-- words of a helper's call -/
def HL (index : Nat) (y : MethodName) (cc : ByteArray) (nL : Nat) (hh : List (Nat × Nat × Nat × Nat)) (n : Nat) : Prop := Cond.methodLink RL index y ∈ lwG ∧ Cond.codeWith y cc nL (some .int) hh ∈ lwG ∧ Cond.static y ∈ lwG ∧ Cond.initialized y.cls ∈ lwG ∧ (y.cls ≠ "java/lang/invoke/MethodHandle" ∧ y.cls ≠ "java/lang/invoke/VarHandle") ∧ (parseMethodDescriptor y.desc).map (fun d => d.parameters.length) = some n
theorem cw_yX11_init : Cond.code yX11_init cX11_init 1 none ∈ lwG := tm1 (List.mem_of_getElem? (i := 29) (by decide +kernel)) (by decide +kernel)
theorem im_yX11_init : Cond.instanceMethod yX11_init ∈ lwG := tm1 (List.mem_of_getElem? (i := 28) (by decide +kernel)) (by decide +kernel)
theorem ml_L_82 : ML RL 82 yX11_init cX11_init 1 none 0 := ⟨tm1 (List.mem_of_getElem? (i := 27) (by decide +kernel)) (by decide +kernel), cw_yX11_init, in_11, by decide, by decide +kernel, by decide +kernel⟩
theorem cw_yX12_init : Cond.code yX12_init cX12_init 1 none ∈ lwG := tm6 (List.mem_of_getElem? (i := 3) (by decide +kernel)) (by decide +kernel)
theorem im_yX12_init : Cond.instanceMethod yX12_init ∈ lwG := tm6 (List.mem_of_getElem? (i := 2) (by decide +kernel)) (by decide +kernel)
theorem ml_L_85 : ML RL 85 yX12_init cX12_init 1 none 0 := ⟨tm6 (List.mem_of_getElem? (i := 1) (by decide +kernel)) (by decide +kernel), cw_yX12_init, in_12, by decide, by decide +kernel, by decide +kernel⟩
theorem cw_yX11_feed : Cond.code yX11_feed cX11_feed 6 (some .int) ∈ lwG := tm2 (List.mem_of_getElem? (i := 148) (by decide +kernel)) (by decide +kernel)
theorem im_yX11_feed : Cond.instanceMethod yX11_feed ∈ lwG := tm2 (List.mem_of_getElem? (i := 146) (by decide +kernel)) (by decide +kernel)
theorem se_yX11_feed : Cond.selects yX11_feed.cls yX11_feed yX11_feed ∈ lwG := tm2 (List.mem_of_getElem? (i := 147) (by decide +kernel)) (by decide +kernel)
theorem ml_L_86 : ML RL 86 yX11_feed cX11_feed 6 (some .int) 5 := ⟨tm2 (List.mem_of_getElem? (i := 145) (by decide +kernel)) (by decide +kernel), cw_yX11_feed, in_11, by decide, by decide +kernel, by decide +kernel⟩
theorem cw_yX12_feed : Cond.code yX12_feed cX12_feed 8 (some .int) ∈ lwG := tm7 (List.mem_of_getElem? (i := 130) (by decide +kernel)) (by decide +kernel)
theorem im_yX12_feed : Cond.instanceMethod yX12_feed ∈ lwG := tm7 (List.mem_of_getElem? (i := 128) (by decide +kernel)) (by decide +kernel)
theorem se_yX12_feed : Cond.selects yX12_feed.cls yX12_feed yX12_feed ∈ lwG := tm7 (List.mem_of_getElem? (i := 129) (by decide +kernel)) (by decide +kernel)
theorem ml_L_90 : ML RL 90 yX12_feed cX12_feed 8 (some .int) 5 := ⟨tm7 (List.mem_of_getElem? (i := 127) (by decide +kernel)) (by decide +kernel), cw_yX12_feed, in_12, by decide, by decide +kernel, by decide +kernel⟩
theorem hl_L_position : HL 91 yL_position cL_position 4 [(0, 9, 12, 13), (0, 9, 15, 15)] 3 := ⟨tm2 (List.mem_of_getElem? (i := 192) (by decide +kernel)) (by decide +kernel), tm2 (List.mem_of_getElem? (i := 194) (by decide +kernel)) (by decide +kernel), tm2 (List.mem_of_getElem? (i := 193) (by decide +kernel)) (by decide +kernel), in_L, by decide, by decide +kernel⟩
theorem cw_yX12_position : Cond.code yX12_position cX12_position 6 (some .int) ∈ lwG := tm7 (List.mem_of_getElem? (i := 138) (by decide +kernel)) (by decide +kernel)
theorem im_yX12_position : Cond.instanceMethod yX12_position ∈ lwG := tm7 (List.mem_of_getElem? (i := 136) (by decide +kernel)) (by decide +kernel)
theorem se_yX12_position : Cond.selects yX12_position.cls yX12_position yX12_position ∈ lwG := tm7 (List.mem_of_getElem? (i := 137) (by decide +kernel)) (by decide +kernel)
theorem ml_L_96 : ML RL 96 yX12_position cX12_position 6 (some .int) 1 := ⟨tm7 (List.mem_of_getElem? (i := 135) (by decide +kernel)) (by decide +kernel), cw_yX12_position, in_12, by decide, by decide +kernel, by decide +kernel⟩
theorem cw_yX12_thrown : Cond.code yX12_thrown cX12_thrown 1 (some .int) ∈ lwG := tm5 (List.mem_of_getElem? (i := 238) (by decide +kernel)) (by decide +kernel)
theorem im_yX12_thrown : Cond.instanceMethod yX12_thrown ∈ lwG := tm5 (List.mem_of_getElem? (i := 236) (by decide +kernel)) (by decide +kernel)
theorem se_yX12_thrown : Cond.selects yX12_thrown.cls yX12_thrown yX12_thrown ∈ lwG := tm5 (List.mem_of_getElem? (i := 237) (by decide +kernel)) (by decide +kernel)
theorem ml_L_97 : ML RL 97 yX12_thrown cX12_thrown 1 (some .int) 0 := ⟨tm5 (List.mem_of_getElem? (i := 235) (by decide +kernel)) (by decide +kernel), cw_yX12_thrown, in_12, by decide, by decide +kernel, by decide +kernel⟩
theorem cw_yX11_fault : Cond.code yX11_fault cX11_fault 1 (some .int) ∈ lwG := tm2 (List.mem_of_getElem? (i := 160) (by decide +kernel)) (by decide +kernel)
theorem im_yX11_fault : Cond.instanceMethod yX11_fault ∈ lwG := tm2 (List.mem_of_getElem? (i := 158) (by decide +kernel)) (by decide +kernel)
theorem se_yX11_fault : Cond.selects yX11_fault.cls yX11_fault yX11_fault ∈ lwG := tm2 (List.mem_of_getElem? (i := 159) (by decide +kernel)) (by decide +kernel)
theorem ml_L_100 : ML RL 100 yX11_fault cX11_fault 1 (some .int) 0 := ⟨tm2 (List.mem_of_getElem? (i := 157) (by decide +kernel)) (by decide +kernel), cw_yX11_fault, in_11, by decide, by decide +kernel, by decide +kernel⟩
theorem cw_yX12_fault : Cond.code yX12_fault cX12_fault 1 (some .int) ∈ lwG := tm7 (List.mem_of_getElem? (i := 134) (by decide +kernel)) (by decide +kernel)
theorem im_yX12_fault : Cond.instanceMethod yX12_fault ∈ lwG := tm7 (List.mem_of_getElem? (i := 132) (by decide +kernel)) (by decide +kernel)
theorem se_yX12_fault : Cond.selects yX12_fault.cls yX12_fault yX12_fault ∈ lwG := tm7 (List.mem_of_getElem? (i := 133) (by decide +kernel)) (by decide +kernel)
theorem ml_L_103 : ML RL 103 yX12_fault cX12_fault 1 (some .int) 0 := ⟨tm7 (List.mem_of_getElem? (i := 131) (by decide +kernel)) (by decide +kernel), cw_yX12_fault, in_12, by decide, by decide +kernel, by decide +kernel⟩
theorem hl_L_men : HL 104 yL_men cL_men 5 [(0, 10, 13, 21)] 4 := ⟨tm3 (List.mem_of_getElem? (i := 136) (by decide +kernel)) (by decide +kernel), tm3 (List.mem_of_getElem? (i := 138) (by decide +kernel)) (by decide +kernel), tm3 (List.mem_of_getElem? (i := 137) (by decide +kernel)) (by decide +kernel), in_L, by decide, by decide +kernel⟩
theorem cw_yX12_men : Cond.code yX12_men cX12_men 3 (some .int) ∈ lwG := tm6 (List.mem_of_getElem? (i := 239) (by decide +kernel)) (by decide +kernel)
theorem im_yX12_men : Cond.instanceMethod yX12_men ∈ lwG := tm6 (List.mem_of_getElem? (i := 237) (by decide +kernel)) (by decide +kernel)
theorem se_yX12_men : Cond.selects yX12_men.cls yX12_men yX12_men ∈ lwG := tm6 (List.mem_of_getElem? (i := 238) (by decide +kernel)) (by decide +kernel)
theorem ml_L_107 : ML RL 107 yX12_men cX12_men 3 (some .int) 2 := ⟨tm6 (List.mem_of_getElem? (i := 236) (by decide +kernel)) (by decide +kernel), cw_yX12_men, in_12, by decide, by decide +kernel, by decide +kernel⟩
theorem hl_L_ask : HL 108 yL_ask cL_ask 4 [(0, 9, 12, 13)] 3 := ⟨tm3 (List.mem_of_getElem? (i := 164) (by decide +kernel)) (by decide +kernel), tm3 (List.mem_of_getElem? (i := 166) (by decide +kernel)) (by decide +kernel), tm3 (List.mem_of_getElem? (i := 165) (by decide +kernel)) (by decide +kernel), in_L, by decide, by decide +kernel⟩
theorem cw_yX12_ask : Cond.code yX12_ask cX12_ask 2 (some .int) ∈ lwG := tm7 (List.mem_of_getElem? (i := 7) (by decide +kernel)) (by decide +kernel)
theorem im_yX12_ask : Cond.instanceMethod yX12_ask ∈ lwG := tm7 (List.mem_of_getElem? (i := 5) (by decide +kernel)) (by decide +kernel)
theorem se_yX12_ask : Cond.selects yX12_ask.cls yX12_ask yX12_ask ∈ lwG := tm7 (List.mem_of_getElem? (i := 6) (by decide +kernel)) (by decide +kernel)
theorem ml_L_110 : ML RL 110 yX12_ask cX12_ask 2 (some .int) 1 := ⟨tm7 (List.mem_of_getElem? (i := 4) (by decide +kernel)) (by decide +kernel), cw_yX12_ask, in_12, by decide, by decide +kernel, by decide +kernel⟩
theorem hl_L_plays : HL 111 yL_plays cL_plays 5 [(0, 10, 13, 13), (0, 10, 17, 15)] 4 := ⟨tm3 (List.mem_of_getElem? (i := 181) (by decide +kernel)) (by decide +kernel), tm3 (List.mem_of_getElem? (i := 183) (by decide +kernel)) (by decide +kernel), tm3 (List.mem_of_getElem? (i := 182) (by decide +kernel)) (by decide +kernel), in_L, by decide, by decide +kernel⟩
theorem cw_yX12_plays : Cond.code yX12_plays cX12_plays 3 (some .int) ∈ lwG := tm7 (List.mem_of_getElem? (i := 19) (by decide +kernel)) (by decide +kernel)
theorem im_yX12_plays : Cond.instanceMethod yX12_plays ∈ lwG := tm7 (List.mem_of_getElem? (i := 17) (by decide +kernel)) (by decide +kernel)
theorem se_yX12_plays : Cond.selects yX12_plays.cls yX12_plays yX12_plays ∈ lwG := tm7 (List.mem_of_getElem? (i := 18) (by decide +kernel)) (by decide +kernel)
theorem ml_L_113 : ML RL 113 yX12_plays cX12_plays 3 (some .int) 2 := ⟨tm7 (List.mem_of_getElem? (i := 16) (by decide +kernel)) (by decide +kernel), cw_yX12_plays, in_12, by decide, by decide +kernel, by decide +kernel⟩
theorem hl_L_result : HL 114 yL_result cL_result 6 [(0, 12, 15, 33), (0, 12, 19, 21)] 5 := ⟨tm4 (List.mem_of_getElem? (i := 51) (by decide +kernel)) (by decide +kernel), tm4 (List.mem_of_getElem? (i := 53) (by decide +kernel)) (by decide +kernel), tm4 (List.mem_of_getElem? (i := 52) (by decide +kernel)) (by decide +kernel), in_L, by decide, by decide +kernel⟩
theorem cw_yX12_result : Cond.code yX12_result cX12_result 4 (some .int) ∈ lwG := tm7 (List.mem_of_getElem? (i := 70) (by decide +kernel)) (by decide +kernel)
theorem im_yX12_result : Cond.instanceMethod yX12_result ∈ lwG := tm7 (List.mem_of_getElem? (i := 68) (by decide +kernel)) (by decide +kernel)
theorem se_yX12_result : Cond.selects yX12_result.cls yX12_result yX12_result ∈ lwG := tm7 (List.mem_of_getElem? (i := 69) (by decide +kernel)) (by decide +kernel)
theorem ml_L_117 : ML RL 117 yX12_result cX12_result 4 (some .int) 3 := ⟨tm7 (List.mem_of_getElem? (i := 67) (by decide +kernel)) (by decide +kernel), cw_yX12_result, in_12, by decide, by decide +kernel, by decide +kernel⟩
theorem hl_L_way : HL 118 yL_way cL_way 5 [(0, 10, 13, 33)] 4 := ⟨tm4 (List.mem_of_getElem? (i := 83) (by decide +kernel)) (by decide +kernel), tm4 (List.mem_of_getElem? (i := 85) (by decide +kernel)) (by decide +kernel), tm4 (List.mem_of_getElem? (i := 84) (by decide +kernel)) (by decide +kernel), in_L, by decide, by decide +kernel⟩
theorem cw_yX12_way : Cond.code yX12_way cX12_way 3 (some .int) ∈ lwG := tm7 (List.mem_of_getElem? (i := 78) (by decide +kernel)) (by decide +kernel)
theorem im_yX12_way : Cond.instanceMethod yX12_way ∈ lwG := tm7 (List.mem_of_getElem? (i := 76) (by decide +kernel)) (by decide +kernel)
theorem se_yX12_way : Cond.selects yX12_way.cls yX12_way yX12_way ∈ lwG := tm7 (List.mem_of_getElem? (i := 77) (by decide +kernel)) (by decide +kernel)
theorem ml_L_120 : ML RL 120 yX12_way cX12_way 3 (some .int) 2 := ⟨tm7 (List.mem_of_getElem? (i := 75) (by decide +kernel)) (by decide +kernel), cw_yX12_way, in_12, by decide, by decide +kernel, by decide +kernel⟩
theorem hl_L_choose : HL 121 yL_choose cL_choose 4 [(0, 9, 12, 33)] 3 := ⟨tm4 (List.mem_of_getElem? (i := 94) (by decide +kernel)) (by decide +kernel), tm4 (List.mem_of_getElem? (i := 96) (by decide +kernel)) (by decide +kernel), tm4 (List.mem_of_getElem? (i := 95) (by decide +kernel)) (by decide +kernel), in_L, by decide, by decide +kernel⟩
theorem cw_yX12_choose : Cond.code yX12_choose cX12_choose 4 (some .int) ∈ lwG := tm7 (List.mem_of_getElem? (i := 90) (by decide +kernel)) (by decide +kernel)
theorem im_yX12_choose : Cond.instanceMethod yX12_choose ∈ lwG := tm7 (List.mem_of_getElem? (i := 88) (by decide +kernel)) (by decide +kernel)
theorem se_yX12_choose : Cond.selects yX12_choose.cls yX12_choose yX12_choose ∈ lwG := tm7 (List.mem_of_getElem? (i := 89) (by decide +kernel)) (by decide +kernel)
theorem ml_L_123 : ML RL 123 yX12_choose cX12_choose 4 (some .int) 1 := ⟨tm7 (List.mem_of_getElem? (i := 87) (by decide +kernel)) (by decide +kernel), cw_yX12_choose, in_12, by decide, by decide +kernel, by decide +kernel⟩
theorem hl_L_say : HL 124 yL_say cL_say 6 [(0, 12, 15, 13), (0, 12, 19, 15)] 5 := ⟨tm4 (List.mem_of_getElem? (i := 127) (by decide +kernel)) (by decide +kernel), tm4 (List.mem_of_getElem? (i := 129) (by decide +kernel)) (by decide +kernel), tm4 (List.mem_of_getElem? (i := 128) (by decide +kernel)) (by decide +kernel), in_L, by decide, by decide +kernel⟩
theorem cw_yX12_say : Cond.code yX12_say cX12_say 7 (some .int) ∈ lwG := tm7 (List.mem_of_getElem? (i := 180) (by decide +kernel)) (by decide +kernel)
theorem im_yX12_say : Cond.instanceMethod yX12_say ∈ lwG := tm7 (List.mem_of_getElem? (i := 178) (by decide +kernel)) (by decide +kernel)
theorem se_yX12_say : Cond.selects yX12_say.cls yX12_say yX12_say ∈ lwG := tm7 (List.mem_of_getElem? (i := 179) (by decide +kernel)) (by decide +kernel)
theorem ml_L_126 : ML RL 126 yX12_say cX12_say 7 (some .int) 3 := ⟨tm7 (List.mem_of_getElem? (i := 177) (by decide +kernel)) (by decide +kernel), cw_yX12_say, in_12, by decide, by decide +kernel, by decide +kernel⟩
theorem cw_yX11_back : Cond.code yX11_back cX11_back 1 (some .boolean) ∈ lwG := tm2 (List.mem_of_getElem? (i := 164) (by decide +kernel)) (by decide +kernel)
theorem im_yX11_back : Cond.instanceMethod yX11_back ∈ lwG := tm2 (List.mem_of_getElem? (i := 162) (by decide +kernel)) (by decide +kernel)
theorem se_yX11_back : Cond.selects yX11_back.cls yX11_back yX11_back ∈ lwG := tm2 (List.mem_of_getElem? (i := 163) (by decide +kernel)) (by decide +kernel)
theorem ml_L_127 : ML RL 127 yX11_back cX11_back 1 (some .boolean) 0 := ⟨tm2 (List.mem_of_getElem? (i := 161) (by decide +kernel)) (by decide +kernel), cw_yX11_back, in_11, by decide, by decide +kernel, by decide +kernel⟩
theorem cw_yX12_back : Cond.code yX12_back cX12_back 2 (some .boolean) ∈ lwG := tm7 (List.mem_of_getElem? (i := 82) (by decide +kernel)) (by decide +kernel)
theorem im_yX12_back : Cond.instanceMethod yX12_back ∈ lwG := tm7 (List.mem_of_getElem? (i := 80) (by decide +kernel)) (by decide +kernel)
theorem se_yX12_back : Cond.selects yX12_back.cls yX12_back yX12_back ∈ lwG := tm7 (List.mem_of_getElem? (i := 81) (by decide +kernel)) (by decide +kernel)
theorem ml_L_131 : ML RL 131 yX12_back cX12_back 2 (some .boolean) 0 := ⟨tm7 (List.mem_of_getElem? (i := 79) (by decide +kernel)) (by decide +kernel), cw_yX12_back, in_12, by decide, by decide +kernel, by decide +kernel⟩
theorem hl_L_begin : HL 132 yL_begin cL_begin 3 [(0, 5, 8, 13)] 2 := ⟨tm4 (List.mem_of_getElem? (i := 182) (by decide +kernel)) (by decide +kernel), tm4 (List.mem_of_getElem? (i := 184) (by decide +kernel)) (by decide +kernel), tm4 (List.mem_of_getElem? (i := 183) (by decide +kernel)) (by decide +kernel), in_L, by decide, by decide +kernel⟩
theorem cw_yX12_begin : Cond.code yX12_begin cX12_begin 2 none ∈ lwG := tm7 (List.mem_of_getElem? (i := 102) (by decide +kernel)) (by decide +kernel)
theorem im_yX12_begin : Cond.instanceMethod yX12_begin ∈ lwG := tm7 (List.mem_of_getElem? (i := 100) (by decide +kernel)) (by decide +kernel)
theorem se_yX12_begin : Cond.selects yX12_begin.cls yX12_begin yX12_begin ∈ lwG := tm7 (List.mem_of_getElem? (i := 101) (by decide +kernel)) (by decide +kernel)
theorem ml_L_135 : ML RL 135 yX12_begin cX12_begin 2 none 1 := ⟨tm7 (List.mem_of_getElem? (i := 99) (by decide +kernel)) (by decide +kernel), cw_yX12_begin, in_12, by decide, by decide +kernel, by decide +kernel⟩
theorem hl_L_roll : HL 136 yL_roll cL_roll 5 [(0, 10, 13, 13), (0, 10, 17, 15)] 4 := ⟨tm4 (List.mem_of_getElem? (i := 206) (by decide +kernel)) (by decide +kernel), tm4 (List.mem_of_getElem? (i := 208) (by decide +kernel)) (by decide +kernel), tm4 (List.mem_of_getElem? (i := 207) (by decide +kernel)) (by decide +kernel), in_L, by decide, by decide +kernel⟩
theorem cw_yX12_roll : Cond.code yX12_roll cX12_roll 3 (some .int) ∈ lwG := tm7 (List.mem_of_getElem? (i := 110) (by decide +kernel)) (by decide +kernel)
theorem im_yX12_roll : Cond.instanceMethod yX12_roll ∈ lwG := tm7 (List.mem_of_getElem? (i := 108) (by decide +kernel)) (by decide +kernel)
theorem se_yX12_roll : Cond.selects yX12_roll.cls yX12_roll yX12_roll ∈ lwG := tm7 (List.mem_of_getElem? (i := 109) (by decide +kernel)) (by decide +kernel)
theorem ml_L_138 : ML RL 138 yX12_roll cX12_roll 3 (some .int) 2 := ⟨tm7 (List.mem_of_getElem? (i := 107) (by decide +kernel)) (by decide +kernel), cw_yX12_roll, in_12, by decide, by decide +kernel, by decide +kernel⟩
theorem hl_L_offer : HL 139 yL_offer cL_offer 3 [(0, 8, 11, 15)] 2 := ⟨tm4 (List.mem_of_getElem? (i := 223) (by decide +kernel)) (by decide +kernel), tm4 (List.mem_of_getElem? (i := 225) (by decide +kernel)) (by decide +kernel), tm4 (List.mem_of_getElem? (i := 224) (by decide +kernel)) (by decide +kernel), in_L, by decide, by decide +kernel⟩
theorem cw_yX12_offer : Cond.code yX12_offer cX12_offer 1 (some .int) ∈ lwG := tm7 (List.mem_of_getElem? (i := 114) (by decide +kernel)) (by decide +kernel)
theorem im_yX12_offer : Cond.instanceMethod yX12_offer ∈ lwG := tm7 (List.mem_of_getElem? (i := 112) (by decide +kernel)) (by decide +kernel)
theorem se_yX12_offer : Cond.selects yX12_offer.cls yX12_offer yX12_offer ∈ lwG := tm7 (List.mem_of_getElem? (i := 113) (by decide +kernel)) (by decide +kernel)
theorem ml_L_142 : ML RL 142 yX12_offer cX12_offer 1 (some .int) 0 := ⟨tm7 (List.mem_of_getElem? (i := 111) (by decide +kernel)) (by decide +kernel), cw_yX12_offer, in_12, by decide, by decide +kernel, by decide +kernel⟩
theorem hl_L_answer : HL 143 yL_answer cL_answer 4 [(0, 9, 12, 15)] 3 := ⟨tm4 (List.mem_of_getElem? (i := 235) (by decide +kernel)) (by decide +kernel), tm4 (List.mem_of_getElem? (i := 237) (by decide +kernel)) (by decide +kernel), tm4 (List.mem_of_getElem? (i := 236) (by decide +kernel)) (by decide +kernel), in_L, by decide, by decide +kernel⟩
theorem cw_yX12_answer : Cond.code yX12_answer cX12_answer 2 (some .int) ∈ lwG := tm7 (List.mem_of_getElem? (i := 118) (by decide +kernel)) (by decide +kernel)
theorem im_yX12_answer : Cond.instanceMethod yX12_answer ∈ lwG := tm7 (List.mem_of_getElem? (i := 116) (by decide +kernel)) (by decide +kernel)
theorem se_yX12_answer : Cond.selects yX12_answer.cls yX12_answer yX12_answer ∈ lwG := tm7 (List.mem_of_getElem? (i := 117) (by decide +kernel)) (by decide +kernel)
theorem ml_L_146 : ML RL 146 yX12_answer cX12_answer 2 (some .int) 1 := ⟨tm7 (List.mem_of_getElem? (i := 115) (by decide +kernel)) (by decide +kernel), cw_yX12_answer, in_12, by decide, by decide +kernel, by decide +kernel⟩
theorem hl_L_next : HL 147 yL_next cL_next 2 [(0, 4, 7, 15)] 1 := ⟨tm5 (List.mem_of_getElem? (i := 8) (by decide +kernel)) (by decide +kernel), tm5 (List.mem_of_getElem? (i := 10) (by decide +kernel)) (by decide +kernel), tm5 (List.mem_of_getElem? (i := 9) (by decide +kernel)) (by decide +kernel), in_L, by decide, by decide +kernel⟩
theorem cw_yX12_next : Cond.code yX12_next cX12_next 1 none ∈ lwG := tm7 (List.mem_of_getElem? (i := 122) (by decide +kernel)) (by decide +kernel)
theorem im_yX12_next : Cond.instanceMethod yX12_next ∈ lwG := tm7 (List.mem_of_getElem? (i := 120) (by decide +kernel)) (by decide +kernel)
theorem se_yX12_next : Cond.selects yX12_next.cls yX12_next yX12_next ∈ lwG := tm7 (List.mem_of_getElem? (i := 121) (by decide +kernel)) (by decide +kernel)
theorem ml_L_150 : ML RL 150 yX12_next cX12_next 1 none 0 := ⟨tm7 (List.mem_of_getElem? (i := 119) (by decide +kernel)) (by decide +kernel), cw_yX12_next, in_12, by decide, by decide +kernel, by decide +kernel⟩
theorem hl_L_match : HL 151 yL_match cL_match 4 [(0, 9, 12, 13)] 3 := ⟨tm5 (List.mem_of_getElem? (i := 16) (by decide +kernel)) (by decide +kernel), tm5 (List.mem_of_getElem? (i := 18) (by decide +kernel)) (by decide +kernel), tm5 (List.mem_of_getElem? (i := 17) (by decide +kernel)) (by decide +kernel), in_L, by decide, by decide +kernel⟩
theorem cw_yX12_match : Cond.code yX12_match cX12_match 2 (some .int) ∈ lwG := tm7 (List.mem_of_getElem? (i := 126) (by decide +kernel)) (by decide +kernel)
theorem im_yX12_match : Cond.instanceMethod yX12_match ∈ lwG := tm7 (List.mem_of_getElem? (i := 124) (by decide +kernel)) (by decide +kernel)
theorem se_yX12_match : Cond.selects yX12_match.cls yX12_match yX12_match ∈ lwG := tm7 (List.mem_of_getElem? (i := 125) (by decide +kernel)) (by decide +kernel)
theorem ml_L_153 : ML RL 153 yX12_match cX12_match 2 (some .int) 1 := ⟨tm7 (List.mem_of_getElem? (i := 123) (by decide +kernel)) (by decide +kernel), cw_yX12_match, in_12, by decide, by decide +kernel, by decide +kernel⟩
theorem hl_L_learn : HL 154 yL_learn cL_learn 3 [(0, 8, 11, 15)] 2 := ⟨tm5 (List.mem_of_getElem? (i := 27) (by decide +kernel)) (by decide +kernel), tm5 (List.mem_of_getElem? (i := 29) (by decide +kernel)) (by decide +kernel), tm5 (List.mem_of_getElem? (i := 28) (by decide +kernel)) (by decide +kernel), in_L, by decide, by decide +kernel⟩
theorem cw_yX12_learn : Cond.code yX12_learn cX12_learn 10 (some .int) ∈ lwG := tm7 (List.mem_of_getElem? (i := 192) (by decide +kernel)) (by decide +kernel)
theorem im_yX12_learn : Cond.instanceMethod yX12_learn ∈ lwG := tm7 (List.mem_of_getElem? (i := 190) (by decide +kernel)) (by decide +kernel)
theorem se_yX12_learn : Cond.selects yX12_learn.cls yX12_learn yX12_learn ∈ lwG := tm7 (List.mem_of_getElem? (i := 191) (by decide +kernel)) (by decide +kernel)
theorem ml_L_156 : ML RL 156 yX12_learn cX12_learn 10 (some .int) 0 := ⟨tm7 (List.mem_of_getElem? (i := 189) (by decide +kernel)) (by decide +kernel), cw_yX12_learn, in_12, by decide, by decide +kernel, by decide +kernel⟩
theorem hl_L_rolls : HL 157 yL_rolls cL_rolls 4 [(0, 9, 12, 13), (0, 9, 15, 15)] 3 := ⟨tm5 (List.mem_of_getElem? (i := 39) (by decide +kernel)) (by decide +kernel), tm5 (List.mem_of_getElem? (i := 41) (by decide +kernel)) (by decide +kernel), tm5 (List.mem_of_getElem? (i := 40) (by decide +kernel)) (by decide +kernel), in_L, by decide, by decide +kernel⟩
theorem cw_yX12_rolls : Cond.code yX12_rolls cX12_rolls 4 (some .int) ∈ lwG := tm8 (List.mem_of_getElem? (i := 16) (by decide +kernel)) (by decide +kernel)
theorem im_yX12_rolls : Cond.instanceMethod yX12_rolls ∈ lwG := tm8 (List.mem_of_getElem? (i := 14) (by decide +kernel)) (by decide +kernel)
theorem se_yX12_rolls : Cond.selects yX12_rolls.cls yX12_rolls yX12_rolls ∈ lwG := tm8 (List.mem_of_getElem? (i := 15) (by decide +kernel)) (by decide +kernel)
theorem ml_L_159 : ML RL 159 yX12_rolls cX12_rolls 4 (some .int) 1 := ⟨tm8 (List.mem_of_getElem? (i := 13) (by decide +kernel)) (by decide +kernel), cw_yX12_rolls, in_12, by decide, by decide +kernel, by decide +kernel⟩
theorem hl_L_best : HL 160 yL_best cL_best 6 [(0, 12, 15, 13), (0, 12, 19, 15)] 5 := ⟨tm5 (List.mem_of_getElem? (i := 180) (by decide +kernel)) (by decide +kernel), tm5 (List.mem_of_getElem? (i := 182) (by decide +kernel)) (by decide +kernel), tm5 (List.mem_of_getElem? (i := 181) (by decide +kernel)) (by decide +kernel), in_L, by decide, by decide +kernel⟩
theorem cw_yX12_best : Cond.code yX12_best cX12_best 4 (some .int) ∈ lwG := tm8 (List.mem_of_getElem? (i := 1) (by decide +kernel)) (by decide +kernel)
theorem im_yX12_best : Cond.instanceMethod yX12_best ∈ lwG := tm7 (List.mem_of_getElem? (i := 239) (by decide +kernel)) (by decide +kernel)
theorem se_yX12_best : Cond.selects yX12_best.cls yX12_best yX12_best ∈ lwG := tm8 (List.mem_of_getElem? (i := 0) (by decide +kernel)) (by decide +kernel)
theorem ml_L_162 : ML RL 162 yX12_best cX12_best 4 (some .int) 3 := ⟨tm7 (List.mem_of_getElem? (i := 238) (by decide +kernel)) (by decide +kernel), cw_yX12_best, in_12, by decide, by decide +kernel, by decide +kernel⟩
theorem hl_L_within : HL 163 yL_within cL_within 5 [(0, 10, 13, 13), (0, 10, 17, 15)] 4 := ⟨tm5 (List.mem_of_getElem? (i := 188) (by decide +kernel)) (by decide +kernel), tm5 (List.mem_of_getElem? (i := 190) (by decide +kernel)) (by decide +kernel), tm5 (List.mem_of_getElem? (i := 189) (by decide +kernel)) (by decide +kernel), in_L, by decide, by decide +kernel⟩
theorem cw_yX12_within : Cond.code yX12_within cX12_within 3 (some .int) ∈ lwG := tm8 (List.mem_of_getElem? (i := 39) (by decide +kernel)) (by decide +kernel)
theorem im_yX12_within : Cond.instanceMethod yX12_within ∈ lwG := tm8 (List.mem_of_getElem? (i := 37) (by decide +kernel)) (by decide +kernel)
theorem se_yX12_within : Cond.selects yX12_within.cls yX12_within yX12_within ∈ lwG := tm8 (List.mem_of_getElem? (i := 38) (by decide +kernel)) (by decide +kernel)
theorem ml_L_165 : ML RL 165 yX12_within cX12_within 3 (some .int) 2 := ⟨tm8 (List.mem_of_getElem? (i := 36) (by decide +kernel)) (by decide +kernel), cw_yX12_within, in_12, by decide, by decide +kernel, by decide +kernel⟩
theorem hl_L_race : HL 166 yL_race cL_race 5 [(0, 10, 13, 13), (0, 10, 17, 15), (0, 10, 21, 80)] 4 := ⟨tm5 (List.mem_of_getElem? (i := 198) (by decide +kernel)) (by decide +kernel), tm5 (List.mem_of_getElem? (i := 200) (by decide +kernel)) (by decide +kernel), tm5 (List.mem_of_getElem? (i := 199) (by decide +kernel)) (by decide +kernel), in_L, by decide, by decide +kernel⟩
theorem cw_yX12_race : Cond.code yX12_race cX12_race 5 (some .int) ∈ lwG := tm8 (List.mem_of_getElem? (i := 54) (by decide +kernel)) (by decide +kernel)
theorem im_yX12_race : Cond.instanceMethod yX12_race ∈ lwG := tm8 (List.mem_of_getElem? (i := 52) (by decide +kernel)) (by decide +kernel)
theorem se_yX12_race : Cond.selects yX12_race.cls yX12_race yX12_race ∈ lwG := tm8 (List.mem_of_getElem? (i := 53) (by decide +kernel)) (by decide +kernel)
theorem ml_L_168 : ML RL 168 yX12_race cX12_race 5 (some .int) 2 := ⟨tm8 (List.mem_of_getElem? (i := 51) (by decide +kernel)) (by decide +kernel), cw_yX12_race, in_12, by decide, by decide +kernel, by decide +kernel⟩
theorem cw_yX11_octet : Cond.code yX11_octet cX11_octet 2 (some .int) ∈ lwG := tm2 (List.mem_of_getElem? (i := 187) (by decide +kernel)) (by decide +kernel)
theorem im_yX11_octet : Cond.instanceMethod yX11_octet ∈ lwG := tm2 (List.mem_of_getElem? (i := 185) (by decide +kernel)) (by decide +kernel)
theorem se_yX11_octet : Cond.selects yX11_octet.cls yX11_octet yX11_octet ∈ lwG := tm2 (List.mem_of_getElem? (i := 186) (by decide +kernel)) (by decide +kernel)
theorem ml_L_169 : ML RL 169 yX11_octet cX11_octet 2 (some .int) 1 := ⟨tm2 (List.mem_of_getElem? (i := 184) (by decide +kernel)) (by decide +kernel), cw_yX11_octet, in_11, by decide, by decide +kernel, by decide +kernel⟩
theorem cw_yX12_octet : Cond.code yX12_octet cX12_octet 2 (some .int) ∈ lwG := tm8 (List.mem_of_getElem? (i := 35) (by decide +kernel)) (by decide +kernel)
theorem im_yX12_octet : Cond.instanceMethod yX12_octet ∈ lwG := tm8 (List.mem_of_getElem? (i := 33) (by decide +kernel)) (by decide +kernel)
theorem se_yX12_octet : Cond.selects yX12_octet.cls yX12_octet yX12_octet ∈ lwG := tm8 (List.mem_of_getElem? (i := 34) (by decide +kernel)) (by decide +kernel)
theorem ml_L_172 : ML RL 172 yX12_octet cX12_octet 2 (some .int) 1 := ⟨tm8 (List.mem_of_getElem? (i := 32) (by decide +kernel)) (by decide +kernel), cw_yX12_octet, in_12, by decide, by decide +kernel, by decide +kernel⟩
theorem cl_L_8 : Cond.classLink RL 8 RX11 ∈ lwG := tm1 (List.mem_of_getElem? (i := 25) (by decide +kernel)) (by decide +kernel)
theorem cl_L_83 : Cond.classLink RL 83 RX12 ∈ lwG := tm5 (List.mem_of_getElem? (i := 239) (by decide +kernel)) (by decide +kernel)
theorem ia_11 : Cond.instantiable RX11 11 ∈ lwG := tm1 (List.mem_of_getElem? (i := 26) (by decide +kernel)) (by decide +kernel)
theorem ia_12 : Cond.instantiable RX12 74 ∈ lwG := tm6 (List.mem_of_getElem? (i := 0) (by decide +kernel)) (by decide +kernel)
theorem ar_long : Cond.arrayClass .long ∈ lwG := tm1 (List.mem_of_getElem? (i := 191) (by decide +kernel)) (by decide +kernel)
theorem dL_law_0 : decode cL_law 0 = .ok (.new 8, 3) := by decide +kernel
theorem dL_law_3 : decode cL_law 3 = .ok (.dup, 1) := by decide +kernel
theorem dL_law_4 : decode cL_law 4 = .ok (.invokespecial 82, 3) := by decide +kernel
theorem dL_law_7 : decode cL_law 7 = .ok (.astore_n 1, 1) := by decide +kernel
theorem dL_law_8 : decode cL_law 8 = .ok (.new 83, 3) := by decide +kernel
theorem dL_law_11 : decode cL_law 11 = .ok (.dup, 1) := by decide +kernel
theorem dL_law_12 : decode cL_law 12 = .ok (.invokespecial 85, 3) := by decide +kernel
theorem dL_law_15 : decode cL_law 15 = .ok (.astore_n 2, 1) := by decide +kernel
theorem dL_law_16 : decode cL_law 16 = .ok (.iconst 1, 1) := by decide +kernel
theorem dL_law_17 : decode cL_law 17 = .ok (.newarray .long, 2) := by decide +kernel
theorem dL_law_19 : decode cL_law 19 = .ok (.astore_n 3, 1) := by decide +kernel
theorem dL_law_20 : decode cL_law 20 = .ok (.iconst 0, 1) := by decide +kernel
theorem dL_law_21 : decode cL_law 21 = .ok (.istore 4, 2) := by decide +kernel
theorem dL_law_23 : decode cL_law 23 = .ok (.iload 4, 2) := by decide +kernel
theorem dL_law_25 : decode cL_law 25 = .ok (.aload_n 0, 1) := by decide +kernel
theorem dL_law_26 : decode cL_law 26 = .ok (.arraylength, 1) := by decide +kernel
theorem dL_law_27 : decode cL_law 27 = .ok (.bipush 6, 2) := by decide +kernel
theorem dL_law_29 : decode cL_law 29 = .ok (.isub, 1) := by decide +kernel
theorem dL_law_30 : decode cL_law 30 = .ok (.if_icmp .gt 1396, 3) := by decide +kernel
theorem dL_law_33 : decode cL_law 33 = .ok (.aload_n 0, 1) := by decide +kernel
theorem dL_law_34 : decode cL_law 34 = .ok (.iload 4, 2) := by decide +kernel
theorem dL_law_36 : decode cL_law 36 = .ok (.iaload, 1) := by decide +kernel
theorem dL_law_37 : decode cL_law 37 = .ok (.bipush 31, 2) := by decide +kernel
theorem dL_law_39 : decode cL_law 39 = .ok (.iand, 1) := by decide +kernel
theorem dL_law_40 : decode cL_law 40 = .ok (.tableswitch 1380 0 22 #[108, 181, 237, 250, 318, 374, 442, 522, 590, 646, 726, 739, 775, 843, 887, 959, 983, 1039, 1083, 1139, 1219, 1287, 1355], 108) := by decide +kernel
theorem dL_law_148 : decode cL_law 148 = .ok (.aload_n 1, 1) := by decide +kernel
theorem dL_law_149 : decode cL_law 149 = .ok (.aload_n 0, 1) := by decide +kernel
theorem dL_law_150 : decode cL_law 150 = .ok (.iload 4, 2) := by decide +kernel
theorem dL_law_152 : decode cL_law 152 = .ok (.iconst 1, 1) := by decide +kernel
theorem dL_law_153 : decode cL_law 153 = .ok (.iadd, 1) := by decide +kernel
theorem dL_law_154 : decode cL_law 154 = .ok (.iaload, 1) := by decide +kernel
theorem dL_law_155 : decode cL_law 155 = .ok (.aload_n 0, 1) := by decide +kernel
theorem dL_law_156 : decode cL_law 156 = .ok (.iload 4, 2) := by decide +kernel
theorem dL_law_158 : decode cL_law 158 = .ok (.iconst 2, 1) := by decide +kernel
theorem dL_law_159 : decode cL_law 159 = .ok (.iadd, 1) := by decide +kernel
theorem dL_law_160 : decode cL_law 160 = .ok (.iaload, 1) := by decide +kernel
theorem dL_law_161 : decode cL_law 161 = .ok (.aload_n 0, 1) := by decide +kernel
theorem dL_law_162 : decode cL_law 162 = .ok (.iload 4, 2) := by decide +kernel
theorem dL_law_164 : decode cL_law 164 = .ok (.iconst 3, 1) := by decide +kernel
theorem dL_law_165 : decode cL_law 165 = .ok (.iadd, 1) := by decide +kernel
theorem dL_law_166 : decode cL_law 166 = .ok (.iaload, 1) := by decide +kernel
theorem dL_law_167 : decode cL_law 167 = .ok (.aload_n 0, 1) := by decide +kernel
theorem dL_law_168 : decode cL_law 168 = .ok (.iload 4, 2) := by decide +kernel
theorem dL_law_170 : decode cL_law 170 = .ok (.iconst 4, 1) := by decide +kernel
theorem dL_law_171 : decode cL_law 171 = .ok (.iadd, 1) := by decide +kernel
theorem dL_law_172 : decode cL_law 172 = .ok (.iaload, 1) := by decide +kernel
theorem dL_law_173 : decode cL_law 173 = .ok (.aload_n 0, 1) := by decide +kernel
theorem dL_law_174 : decode cL_law 174 = .ok (.iload 4, 2) := by decide +kernel
theorem dL_law_176 : decode cL_law 176 = .ok (.iconst 5, 1) := by decide +kernel
theorem dL_law_177 : decode cL_law 177 = .ok (.iadd, 1) := by decide +kernel
theorem dL_law_178 : decode cL_law 178 = .ok (.iaload, 1) := by decide +kernel
theorem dL_law_179 : decode cL_law 179 = .ok (.invokevirtual 86, 3) := by decide +kernel
theorem dL_law_182 : decode cL_law 182 = .ok (.aload_n 2, 1) := by decide +kernel
theorem dL_law_183 : decode cL_law 183 = .ok (.aload_n 0, 1) := by decide +kernel
theorem dL_law_184 : decode cL_law 184 = .ok (.iload 4, 2) := by decide +kernel
theorem dL_law_186 : decode cL_law 186 = .ok (.iconst 1, 1) := by decide +kernel
theorem dL_law_187 : decode cL_law 187 = .ok (.iadd, 1) := by decide +kernel
theorem dL_law_188 : decode cL_law 188 = .ok (.iaload, 1) := by decide +kernel
theorem dL_law_189 : decode cL_law 189 = .ok (.aload_n 0, 1) := by decide +kernel
theorem dL_law_190 : decode cL_law 190 = .ok (.iload 4, 2) := by decide +kernel
theorem dL_law_192 : decode cL_law 192 = .ok (.iconst 2, 1) := by decide +kernel
theorem dL_law_193 : decode cL_law 193 = .ok (.iadd, 1) := by decide +kernel
theorem dL_law_194 : decode cL_law 194 = .ok (.iaload, 1) := by decide +kernel
theorem dL_law_195 : decode cL_law 195 = .ok (.aload_n 0, 1) := by decide +kernel
theorem dL_law_196 : decode cL_law 196 = .ok (.iload 4, 2) := by decide +kernel
theorem dL_law_198 : decode cL_law 198 = .ok (.iconst 3, 1) := by decide +kernel
theorem dL_law_199 : decode cL_law 199 = .ok (.iadd, 1) := by decide +kernel
theorem dL_law_200 : decode cL_law 200 = .ok (.iaload, 1) := by decide +kernel
theorem dL_law_201 : decode cL_law 201 = .ok (.aload_n 0, 1) := by decide +kernel
theorem dL_law_202 : decode cL_law 202 = .ok (.iload 4, 2) := by decide +kernel
theorem dL_law_204 : decode cL_law 204 = .ok (.iconst 4, 1) := by decide +kernel
theorem dL_law_205 : decode cL_law 205 = .ok (.iadd, 1) := by decide +kernel
theorem dL_law_206 : decode cL_law 206 = .ok (.iaload, 1) := by decide +kernel
theorem dL_law_207 : decode cL_law 207 = .ok (.aload_n 0, 1) := by decide +kernel
theorem dL_law_208 : decode cL_law 208 = .ok (.iload 4, 2) := by decide +kernel
theorem dL_law_210 : decode cL_law 210 = .ok (.iconst 5, 1) := by decide +kernel
theorem dL_law_211 : decode cL_law 211 = .ok (.iadd, 1) := by decide +kernel
theorem dL_law_212 : decode cL_law 212 = .ok (.iaload, 1) := by decide +kernel
theorem dL_law_213 : decode cL_law 213 = .ok (.invokevirtual 90, 3) := by decide +kernel
theorem dL_law_216 : decode cL_law 216 = .ok (.if_icmp .eq 1204, 3) := by decide +kernel
theorem dL_law_219 : decode cL_law 219 = .ok (.iconst 0, 1) := by decide +kernel
theorem dL_law_220 : decode cL_law 220 = .ok (.ireturn, 1) := by decide +kernel
theorem dL_law_221 : decode cL_law 221 = .ok (.aload_n 1, 1) := by decide +kernel
theorem dL_law_222 : decode cL_law 222 = .ok (.aload_n 0, 1) := by decide +kernel
theorem dL_law_223 : decode cL_law 223 = .ok (.iload 4, 2) := by decide +kernel
theorem dL_law_225 : decode cL_law 225 = .ok (.iconst 1, 1) := by decide +kernel
theorem dL_law_226 : decode cL_law 226 = .ok (.iadd, 1) := by decide +kernel
theorem dL_law_227 : decode cL_law 227 = .ok (.iaload, 1) := by decide +kernel
theorem dL_law_228 : decode cL_law 228 = .ok (.aload_n 3, 1) := by decide +kernel
theorem dL_law_229 : decode cL_law 229 = .ok (.invokestatic 91, 3) := by decide +kernel
theorem dL_law_232 : decode cL_law 232 = .ok (.istore 5, 2) := by decide +kernel
theorem dL_law_234 : decode cL_law 234 = .ok (.aload_n 2, 1) := by decide +kernel
theorem dL_law_235 : decode cL_law 235 = .ok (.aload_n 0, 1) := by decide +kernel
theorem dL_law_236 : decode cL_law 236 = .ok (.iload 4, 2) := by decide +kernel
theorem dL_law_238 : decode cL_law 238 = .ok (.iconst 1, 1) := by decide +kernel
theorem dL_law_239 : decode cL_law 239 = .ok (.iadd, 1) := by decide +kernel
theorem dL_law_240 : decode cL_law 240 = .ok (.iaload, 1) := by decide +kernel
theorem dL_law_241 : decode cL_law 241 = .ok (.invokevirtual 96, 3) := by decide +kernel
theorem dL_law_244 : decode cL_law 244 = .ok (.istore 6, 2) := by decide +kernel
theorem dL_law_246 : decode cL_law 246 = .ok (.aload_n 2, 1) := by decide +kernel
theorem dL_law_247 : decode cL_law 247 = .ok (.invokevirtual 97, 3) := by decide +kernel
theorem dL_law_250 : decode cL_law 250 = .ok (.iload 5, 2) := by decide +kernel
theorem dL_law_252 : decode cL_law 252 = .ok (.if_icmp .eq 5, 3) := by decide +kernel
theorem dL_law_255 : decode cL_law 255 = .ok (.iconst 0, 1) := by decide +kernel
theorem dL_law_256 : decode cL_law 256 = .ok (.ireturn, 1) := by decide +kernel
theorem dL_law_257 : decode cL_law 257 = .ok (.iload 5, 2) := by decide +kernel
theorem dL_law_259 : decode cL_law 259 = .ok (.ifCond .ne 15, 3) := by decide +kernel
theorem dL_law_262 : decode cL_law 262 = .ok (.aload_n 3, 1) := by decide +kernel
theorem dL_law_263 : decode cL_law 263 = .ok (.iconst 0, 1) := by decide +kernel
theorem dL_law_264 : decode cL_law 264 = .ok (.laload, 1) := by decide +kernel
theorem dL_law_265 : decode cL_law 265 = .ok (.iload 6, 2) := by decide +kernel
theorem dL_law_267 : decode cL_law 267 = .ok (.i2l, 1) := by decide +kernel
theorem dL_law_268 : decode cL_law 268 = .ok (.lcmp, 1) := by decide +kernel
theorem dL_law_269 : decode cL_law 269 = .ok (.ifCond .eq 5, 3) := by decide +kernel
theorem dL_law_272 : decode cL_law 272 = .ok (.iconst 0, 1) := by decide +kernel
theorem dL_law_273 : decode cL_law 273 = .ok (.ireturn, 1) := by decide +kernel
theorem dL_law_274 : decode cL_law 274 = .ok (.goto 1146, 3) := by decide +kernel
theorem dL_law_277 : decode cL_law 277 = .ok (.aload_n 1, 1) := by decide +kernel
theorem dL_law_278 : decode cL_law 278 = .ok (.invokevirtual 100, 3) := by decide +kernel
theorem dL_law_281 : decode cL_law 281 = .ok (.aload_n 2, 1) := by decide +kernel
theorem dL_law_282 : decode cL_law 282 = .ok (.invokevirtual 103, 3) := by decide +kernel
theorem dL_law_285 : decode cL_law 285 = .ok (.if_icmp .eq 1135, 3) := by decide +kernel
theorem dL_law_288 : decode cL_law 288 = .ok (.iconst 0, 1) := by decide +kernel
theorem dL_law_289 : decode cL_law 289 = .ok (.ireturn, 1) := by decide +kernel
theorem dL_law_290 : decode cL_law 290 = .ok (.aload_n 1, 1) := by decide +kernel
theorem dL_law_291 : decode cL_law 291 = .ok (.aload_n 0, 1) := by decide +kernel
theorem dL_law_292 : decode cL_law 292 = .ok (.iload 4, 2) := by decide +kernel
theorem dL_law_294 : decode cL_law 294 = .ok (.iconst 1, 1) := by decide +kernel
theorem dL_law_295 : decode cL_law 295 = .ok (.iadd, 1) := by decide +kernel
theorem dL_law_296 : decode cL_law 296 = .ok (.iaload, 1) := by decide +kernel
theorem dL_law_297 : decode cL_law 297 = .ok (.aload_n 0, 1) := by decide +kernel
theorem dL_law_298 : decode cL_law 298 = .ok (.iload 4, 2) := by decide +kernel
theorem dL_law_300 : decode cL_law 300 = .ok (.iconst 2, 1) := by decide +kernel
theorem dL_law_301 : decode cL_law 301 = .ok (.iadd, 1) := by decide +kernel
theorem dL_law_302 : decode cL_law 302 = .ok (.iaload, 1) := by decide +kernel
theorem dL_law_303 : decode cL_law 303 = .ok (.aload_n 3, 1) := by decide +kernel
theorem dL_law_304 : decode cL_law 304 = .ok (.invokestatic 104, 3) := by decide +kernel
theorem dL_law_307 : decode cL_law 307 = .ok (.istore 5, 2) := by decide +kernel
theorem dL_law_309 : decode cL_law 309 = .ok (.aload_n 2, 1) := by decide +kernel
theorem dL_law_310 : decode cL_law 310 = .ok (.aload_n 0, 1) := by decide +kernel
theorem dL_law_311 : decode cL_law 311 = .ok (.iload 4, 2) := by decide +kernel
theorem dL_law_313 : decode cL_law 313 = .ok (.iconst 1, 1) := by decide +kernel
theorem dL_law_314 : decode cL_law 314 = .ok (.iadd, 1) := by decide +kernel
theorem dL_law_315 : decode cL_law 315 = .ok (.iaload, 1) := by decide +kernel
theorem dL_law_316 : decode cL_law 316 = .ok (.aload_n 0, 1) := by decide +kernel
theorem dL_law_317 : decode cL_law 317 = .ok (.iload 4, 2) := by decide +kernel
theorem dL_law_319 : decode cL_law 319 = .ok (.iconst 2, 1) := by decide +kernel
theorem dL_law_320 : decode cL_law 320 = .ok (.iadd, 1) := by decide +kernel
theorem dL_law_321 : decode cL_law 321 = .ok (.iaload, 1) := by decide +kernel
theorem dL_law_322 : decode cL_law 322 = .ok (.invokevirtual 107, 3) := by decide +kernel
theorem dL_law_325 : decode cL_law 325 = .ok (.istore 6, 2) := by decide +kernel
theorem dL_law_327 : decode cL_law 327 = .ok (.aload_n 2, 1) := by decide +kernel
theorem dL_law_328 : decode cL_law 328 = .ok (.invokevirtual 97, 3) := by decide +kernel
theorem dL_law_331 : decode cL_law 331 = .ok (.iload 5, 2) := by decide +kernel
theorem dL_law_333 : decode cL_law 333 = .ok (.if_icmp .eq 5, 3) := by decide +kernel
theorem dL_law_336 : decode cL_law 336 = .ok (.iconst 0, 1) := by decide +kernel
theorem dL_law_337 : decode cL_law 337 = .ok (.ireturn, 1) := by decide +kernel
theorem dL_law_338 : decode cL_law 338 = .ok (.iload 5, 2) := by decide +kernel
theorem dL_law_340 : decode cL_law 340 = .ok (.ifCond .ne 15, 3) := by decide +kernel
theorem dL_law_343 : decode cL_law 343 = .ok (.aload_n 3, 1) := by decide +kernel
theorem dL_law_344 : decode cL_law 344 = .ok (.iconst 0, 1) := by decide +kernel
theorem dL_law_345 : decode cL_law 345 = .ok (.laload, 1) := by decide +kernel
theorem dL_law_346 : decode cL_law 346 = .ok (.iload 6, 2) := by decide +kernel
theorem dL_law_348 : decode cL_law 348 = .ok (.i2l, 1) := by decide +kernel
theorem dL_law_349 : decode cL_law 349 = .ok (.lcmp, 1) := by decide +kernel
theorem dL_law_350 : decode cL_law 350 = .ok (.ifCond .eq 5, 3) := by decide +kernel
theorem dL_law_353 : decode cL_law 353 = .ok (.iconst 0, 1) := by decide +kernel
theorem dL_law_354 : decode cL_law 354 = .ok (.ireturn, 1) := by decide +kernel
theorem dL_law_355 : decode cL_law 355 = .ok (.goto 1065, 3) := by decide +kernel
theorem dL_law_358 : decode cL_law 358 = .ok (.aload_n 1, 1) := by decide +kernel
theorem dL_law_359 : decode cL_law 359 = .ok (.aload_n 0, 1) := by decide +kernel
theorem dL_law_360 : decode cL_law 360 = .ok (.iload 4, 2) := by decide +kernel
theorem dL_law_362 : decode cL_law 362 = .ok (.iconst 1, 1) := by decide +kernel
theorem dL_law_363 : decode cL_law 363 = .ok (.iadd, 1) := by decide +kernel
theorem dL_law_364 : decode cL_law 364 = .ok (.iaload, 1) := by decide +kernel
theorem dL_law_365 : decode cL_law 365 = .ok (.aload_n 3, 1) := by decide +kernel
theorem dL_law_366 : decode cL_law 366 = .ok (.invokestatic 108, 3) := by decide +kernel
theorem dL_law_369 : decode cL_law 369 = .ok (.istore 5, 2) := by decide +kernel
theorem dL_law_371 : decode cL_law 371 = .ok (.aload_n 2, 1) := by decide +kernel
theorem dL_law_372 : decode cL_law 372 = .ok (.aload_n 0, 1) := by decide +kernel
theorem dL_law_373 : decode cL_law 373 = .ok (.iload 4, 2) := by decide +kernel
theorem dL_law_375 : decode cL_law 375 = .ok (.iconst 1, 1) := by decide +kernel
theorem dL_law_376 : decode cL_law 376 = .ok (.iadd, 1) := by decide +kernel
theorem dL_law_377 : decode cL_law 377 = .ok (.iaload, 1) := by decide +kernel
theorem dL_law_378 : decode cL_law 378 = .ok (.invokevirtual 110, 3) := by decide +kernel
theorem dL_law_381 : decode cL_law 381 = .ok (.istore 6, 2) := by decide +kernel
theorem dL_law_383 : decode cL_law 383 = .ok (.aload_n 2, 1) := by decide +kernel
theorem dL_law_384 : decode cL_law 384 = .ok (.invokevirtual 97, 3) := by decide +kernel
theorem dL_law_387 : decode cL_law 387 = .ok (.iload 5, 2) := by decide +kernel
theorem dL_law_389 : decode cL_law 389 = .ok (.if_icmp .eq 5, 3) := by decide +kernel
theorem dL_law_392 : decode cL_law 392 = .ok (.iconst 0, 1) := by decide +kernel
theorem dL_law_393 : decode cL_law 393 = .ok (.ireturn, 1) := by decide +kernel
theorem dL_law_394 : decode cL_law 394 = .ok (.iload 5, 2) := by decide +kernel
theorem dL_law_396 : decode cL_law 396 = .ok (.ifCond .ne 15, 3) := by decide +kernel
theorem dL_law_399 : decode cL_law 399 = .ok (.aload_n 3, 1) := by decide +kernel
theorem dL_law_400 : decode cL_law 400 = .ok (.iconst 0, 1) := by decide +kernel
theorem dL_law_401 : decode cL_law 401 = .ok (.laload, 1) := by decide +kernel
theorem dL_law_402 : decode cL_law 402 = .ok (.iload 6, 2) := by decide +kernel
theorem dL_law_404 : decode cL_law 404 = .ok (.i2l, 1) := by decide +kernel
theorem dL_law_405 : decode cL_law 405 = .ok (.lcmp, 1) := by decide +kernel
theorem dL_law_406 : decode cL_law 406 = .ok (.ifCond .eq 5, 3) := by decide +kernel
theorem dL_law_409 : decode cL_law 409 = .ok (.iconst 0, 1) := by decide +kernel
theorem dL_law_410 : decode cL_law 410 = .ok (.ireturn, 1) := by decide +kernel
theorem dL_law_411 : decode cL_law 411 = .ok (.goto 1009, 3) := by decide +kernel
theorem dL_law_414 : decode cL_law 414 = .ok (.aload_n 1, 1) := by decide +kernel
theorem dL_law_415 : decode cL_law 415 = .ok (.aload_n 0, 1) := by decide +kernel
theorem dL_law_416 : decode cL_law 416 = .ok (.iload 4, 2) := by decide +kernel
theorem dL_law_418 : decode cL_law 418 = .ok (.iconst 1, 1) := by decide +kernel
theorem dL_law_419 : decode cL_law 419 = .ok (.iadd, 1) := by decide +kernel
theorem dL_law_420 : decode cL_law 420 = .ok (.iaload, 1) := by decide +kernel
theorem dL_law_421 : decode cL_law 421 = .ok (.aload_n 0, 1) := by decide +kernel
theorem dL_law_422 : decode cL_law 422 = .ok (.iload 4, 2) := by decide +kernel
theorem dL_law_424 : decode cL_law 424 = .ok (.iconst 2, 1) := by decide +kernel
theorem dL_law_425 : decode cL_law 425 = .ok (.iadd, 1) := by decide +kernel
theorem dL_law_426 : decode cL_law 426 = .ok (.iaload, 1) := by decide +kernel
theorem dL_law_427 : decode cL_law 427 = .ok (.aload_n 3, 1) := by decide +kernel
theorem dL_law_428 : decode cL_law 428 = .ok (.invokestatic 111, 3) := by decide +kernel
theorem dL_law_431 : decode cL_law 431 = .ok (.istore 5, 2) := by decide +kernel
theorem dL_law_433 : decode cL_law 433 = .ok (.aload_n 2, 1) := by decide +kernel
theorem dL_law_434 : decode cL_law 434 = .ok (.aload_n 0, 1) := by decide +kernel
theorem dL_law_435 : decode cL_law 435 = .ok (.iload 4, 2) := by decide +kernel
theorem dL_law_437 : decode cL_law 437 = .ok (.iconst 1, 1) := by decide +kernel
theorem dL_law_438 : decode cL_law 438 = .ok (.iadd, 1) := by decide +kernel
theorem dL_law_439 : decode cL_law 439 = .ok (.iaload, 1) := by decide +kernel
theorem dL_law_440 : decode cL_law 440 = .ok (.aload_n 0, 1) := by decide +kernel
theorem dL_law_441 : decode cL_law 441 = .ok (.iload 4, 2) := by decide +kernel
theorem dL_law_443 : decode cL_law 443 = .ok (.iconst 2, 1) := by decide +kernel
theorem dL_law_444 : decode cL_law 444 = .ok (.iadd, 1) := by decide +kernel
theorem dL_law_445 : decode cL_law 445 = .ok (.iaload, 1) := by decide +kernel
theorem dL_law_446 : decode cL_law 446 = .ok (.invokevirtual 113, 3) := by decide +kernel
theorem dL_law_449 : decode cL_law 449 = .ok (.istore 6, 2) := by decide +kernel
theorem dL_law_451 : decode cL_law 451 = .ok (.aload_n 2, 1) := by decide +kernel
theorem dL_law_452 : decode cL_law 452 = .ok (.invokevirtual 97, 3) := by decide +kernel
theorem dL_law_455 : decode cL_law 455 = .ok (.iload 5, 2) := by decide +kernel
theorem dL_law_457 : decode cL_law 457 = .ok (.if_icmp .eq 5, 3) := by decide +kernel
theorem dL_law_460 : decode cL_law 460 = .ok (.iconst 0, 1) := by decide +kernel
theorem dL_law_461 : decode cL_law 461 = .ok (.ireturn, 1) := by decide +kernel
theorem dL_law_462 : decode cL_law 462 = .ok (.iload 5, 2) := by decide +kernel
theorem dL_law_464 : decode cL_law 464 = .ok (.ifCond .ne 15, 3) := by decide +kernel
theorem dL_law_467 : decode cL_law 467 = .ok (.aload_n 3, 1) := by decide +kernel
theorem dL_law_468 : decode cL_law 468 = .ok (.iconst 0, 1) := by decide +kernel
theorem dL_law_469 : decode cL_law 469 = .ok (.laload, 1) := by decide +kernel
theorem dL_law_470 : decode cL_law 470 = .ok (.iload 6, 2) := by decide +kernel
theorem dL_law_472 : decode cL_law 472 = .ok (.i2l, 1) := by decide +kernel
theorem dL_law_473 : decode cL_law 473 = .ok (.lcmp, 1) := by decide +kernel
theorem dL_law_474 : decode cL_law 474 = .ok (.ifCond .eq 5, 3) := by decide +kernel
theorem dL_law_477 : decode cL_law 477 = .ok (.iconst 0, 1) := by decide +kernel
theorem dL_law_478 : decode cL_law 478 = .ok (.ireturn, 1) := by decide +kernel
theorem dL_law_479 : decode cL_law 479 = .ok (.goto 941, 3) := by decide +kernel
theorem dL_law_482 : decode cL_law 482 = .ok (.aload_n 1, 1) := by decide +kernel
theorem dL_law_483 : decode cL_law 483 = .ok (.aload_n 0, 1) := by decide +kernel
theorem dL_law_484 : decode cL_law 484 = .ok (.iload 4, 2) := by decide +kernel
theorem dL_law_486 : decode cL_law 486 = .ok (.iconst 1, 1) := by decide +kernel
theorem dL_law_487 : decode cL_law 487 = .ok (.iadd, 1) := by decide +kernel
theorem dL_law_488 : decode cL_law 488 = .ok (.iaload, 1) := by decide +kernel
theorem dL_law_489 : decode cL_law 489 = .ok (.aload_n 0, 1) := by decide +kernel
theorem dL_law_490 : decode cL_law 490 = .ok (.iload 4, 2) := by decide +kernel
theorem dL_law_492 : decode cL_law 492 = .ok (.iconst 2, 1) := by decide +kernel
theorem dL_law_493 : decode cL_law 493 = .ok (.iadd, 1) := by decide +kernel
theorem dL_law_494 : decode cL_law 494 = .ok (.iaload, 1) := by decide +kernel
theorem dL_law_495 : decode cL_law 495 = .ok (.aload_n 0, 1) := by decide +kernel
theorem dL_law_496 : decode cL_law 496 = .ok (.iload 4, 2) := by decide +kernel
theorem dL_law_498 : decode cL_law 498 = .ok (.iconst 3, 1) := by decide +kernel
theorem dL_law_499 : decode cL_law 499 = .ok (.iadd, 1) := by decide +kernel
theorem dL_law_500 : decode cL_law 500 = .ok (.iaload, 1) := by decide +kernel
theorem dL_law_501 : decode cL_law 501 = .ok (.aload_n 3, 1) := by decide +kernel
theorem dL_law_502 : decode cL_law 502 = .ok (.invokestatic 114, 3) := by decide +kernel
theorem dL_law_505 : decode cL_law 505 = .ok (.istore 5, 2) := by decide +kernel
theorem dL_law_507 : decode cL_law 507 = .ok (.aload_n 2, 1) := by decide +kernel
theorem dL_law_508 : decode cL_law 508 = .ok (.aload_n 0, 1) := by decide +kernel
theorem dL_law_509 : decode cL_law 509 = .ok (.iload 4, 2) := by decide +kernel
theorem dL_law_511 : decode cL_law 511 = .ok (.iconst 1, 1) := by decide +kernel
theorem dL_law_512 : decode cL_law 512 = .ok (.iadd, 1) := by decide +kernel
theorem dL_law_513 : decode cL_law 513 = .ok (.iaload, 1) := by decide +kernel
theorem dL_law_514 : decode cL_law 514 = .ok (.aload_n 0, 1) := by decide +kernel
theorem dL_law_515 : decode cL_law 515 = .ok (.iload 4, 2) := by decide +kernel
theorem dL_law_517 : decode cL_law 517 = .ok (.iconst 2, 1) := by decide +kernel
theorem dL_law_518 : decode cL_law 518 = .ok (.iadd, 1) := by decide +kernel
theorem dL_law_519 : decode cL_law 519 = .ok (.iaload, 1) := by decide +kernel
theorem dL_law_520 : decode cL_law 520 = .ok (.aload_n 0, 1) := by decide +kernel
theorem dL_law_521 : decode cL_law 521 = .ok (.iload 4, 2) := by decide +kernel
theorem dL_law_523 : decode cL_law 523 = .ok (.iconst 3, 1) := by decide +kernel
theorem dL_law_524 : decode cL_law 524 = .ok (.iadd, 1) := by decide +kernel
theorem dL_law_525 : decode cL_law 525 = .ok (.iaload, 1) := by decide +kernel
theorem dL_law_526 : decode cL_law 526 = .ok (.invokevirtual 117, 3) := by decide +kernel
theorem dL_law_529 : decode cL_law 529 = .ok (.istore 6, 2) := by decide +kernel
theorem dL_law_531 : decode cL_law 531 = .ok (.aload_n 2, 1) := by decide +kernel
theorem dL_law_532 : decode cL_law 532 = .ok (.invokevirtual 97, 3) := by decide +kernel
theorem dL_law_535 : decode cL_law 535 = .ok (.iload 5, 2) := by decide +kernel
theorem dL_law_537 : decode cL_law 537 = .ok (.if_icmp .eq 5, 3) := by decide +kernel
theorem dL_law_540 : decode cL_law 540 = .ok (.iconst 0, 1) := by decide +kernel
theorem dL_law_541 : decode cL_law 541 = .ok (.ireturn, 1) := by decide +kernel
theorem dL_law_542 : decode cL_law 542 = .ok (.iload 5, 2) := by decide +kernel
theorem dL_law_544 : decode cL_law 544 = .ok (.ifCond .ne 15, 3) := by decide +kernel
theorem dL_law_547 : decode cL_law 547 = .ok (.aload_n 3, 1) := by decide +kernel
theorem dL_law_548 : decode cL_law 548 = .ok (.iconst 0, 1) := by decide +kernel
theorem dL_law_549 : decode cL_law 549 = .ok (.laload, 1) := by decide +kernel
theorem dL_law_550 : decode cL_law 550 = .ok (.iload 6, 2) := by decide +kernel
theorem dL_law_552 : decode cL_law 552 = .ok (.i2l, 1) := by decide +kernel
theorem dL_law_553 : decode cL_law 553 = .ok (.lcmp, 1) := by decide +kernel
theorem dL_law_554 : decode cL_law 554 = .ok (.ifCond .eq 5, 3) := by decide +kernel
theorem dL_law_557 : decode cL_law 557 = .ok (.iconst 0, 1) := by decide +kernel
theorem dL_law_558 : decode cL_law 558 = .ok (.ireturn, 1) := by decide +kernel
theorem dL_law_559 : decode cL_law 559 = .ok (.goto 861, 3) := by decide +kernel
theorem dL_law_562 : decode cL_law 562 = .ok (.aload_n 1, 1) := by decide +kernel
theorem dL_law_563 : decode cL_law 563 = .ok (.aload_n 0, 1) := by decide +kernel
theorem dL_law_564 : decode cL_law 564 = .ok (.iload 4, 2) := by decide +kernel
theorem dL_law_566 : decode cL_law 566 = .ok (.iconst 1, 1) := by decide +kernel
theorem dL_law_567 : decode cL_law 567 = .ok (.iadd, 1) := by decide +kernel
theorem dL_law_568 : decode cL_law 568 = .ok (.iaload, 1) := by decide +kernel
theorem dL_law_569 : decode cL_law 569 = .ok (.aload_n 0, 1) := by decide +kernel
theorem dL_law_570 : decode cL_law 570 = .ok (.iload 4, 2) := by decide +kernel
theorem dL_law_572 : decode cL_law 572 = .ok (.iconst 2, 1) := by decide +kernel
theorem dL_law_573 : decode cL_law 573 = .ok (.iadd, 1) := by decide +kernel
theorem dL_law_574 : decode cL_law 574 = .ok (.iaload, 1) := by decide +kernel
theorem dL_law_575 : decode cL_law 575 = .ok (.aload_n 3, 1) := by decide +kernel
theorem dL_law_576 : decode cL_law 576 = .ok (.invokestatic 118, 3) := by decide +kernel
theorem dL_law_579 : decode cL_law 579 = .ok (.istore 5, 2) := by decide +kernel
theorem dL_law_581 : decode cL_law 581 = .ok (.aload_n 2, 1) := by decide +kernel
theorem dL_law_582 : decode cL_law 582 = .ok (.aload_n 0, 1) := by decide +kernel
theorem dL_law_583 : decode cL_law 583 = .ok (.iload 4, 2) := by decide +kernel
theorem dL_law_585 : decode cL_law 585 = .ok (.iconst 1, 1) := by decide +kernel
theorem dL_law_586 : decode cL_law 586 = .ok (.iadd, 1) := by decide +kernel
theorem dL_law_587 : decode cL_law 587 = .ok (.iaload, 1) := by decide +kernel
theorem dL_law_588 : decode cL_law 588 = .ok (.aload_n 0, 1) := by decide +kernel
theorem dL_law_589 : decode cL_law 589 = .ok (.iload 4, 2) := by decide +kernel
theorem dL_law_591 : decode cL_law 591 = .ok (.iconst 2, 1) := by decide +kernel
theorem dL_law_592 : decode cL_law 592 = .ok (.iadd, 1) := by decide +kernel
theorem dL_law_593 : decode cL_law 593 = .ok (.iaload, 1) := by decide +kernel
theorem dL_law_594 : decode cL_law 594 = .ok (.invokevirtual 120, 3) := by decide +kernel
theorem dL_law_597 : decode cL_law 597 = .ok (.istore 6, 2) := by decide +kernel
theorem dL_law_599 : decode cL_law 599 = .ok (.aload_n 2, 1) := by decide +kernel
theorem dL_law_600 : decode cL_law 600 = .ok (.invokevirtual 97, 3) := by decide +kernel
theorem dL_law_603 : decode cL_law 603 = .ok (.iload 5, 2) := by decide +kernel
theorem dL_law_605 : decode cL_law 605 = .ok (.if_icmp .eq 5, 3) := by decide +kernel
theorem dL_law_608 : decode cL_law 608 = .ok (.iconst 0, 1) := by decide +kernel
theorem dL_law_609 : decode cL_law 609 = .ok (.ireturn, 1) := by decide +kernel
theorem dL_law_610 : decode cL_law 610 = .ok (.iload 5, 2) := by decide +kernel
theorem dL_law_612 : decode cL_law 612 = .ok (.ifCond .ne 15, 3) := by decide +kernel
theorem dL_law_615 : decode cL_law 615 = .ok (.aload_n 3, 1) := by decide +kernel
theorem dL_law_616 : decode cL_law 616 = .ok (.iconst 0, 1) := by decide +kernel
theorem dL_law_617 : decode cL_law 617 = .ok (.laload, 1) := by decide +kernel
theorem dL_law_618 : decode cL_law 618 = .ok (.iload 6, 2) := by decide +kernel
theorem dL_law_620 : decode cL_law 620 = .ok (.i2l, 1) := by decide +kernel
theorem dL_law_621 : decode cL_law 621 = .ok (.lcmp, 1) := by decide +kernel
theorem dL_law_622 : decode cL_law 622 = .ok (.ifCond .eq 5, 3) := by decide +kernel
theorem dL_law_625 : decode cL_law 625 = .ok (.iconst 0, 1) := by decide +kernel
theorem dL_law_626 : decode cL_law 626 = .ok (.ireturn, 1) := by decide +kernel
theorem dL_law_627 : decode cL_law 627 = .ok (.goto 793, 3) := by decide +kernel
theorem dL_law_630 : decode cL_law 630 = .ok (.aload_n 1, 1) := by decide +kernel
theorem dL_law_631 : decode cL_law 631 = .ok (.aload_n 0, 1) := by decide +kernel
theorem dL_law_632 : decode cL_law 632 = .ok (.iload 4, 2) := by decide +kernel
theorem dL_law_634 : decode cL_law 634 = .ok (.iconst 1, 1) := by decide +kernel
theorem dL_law_635 : decode cL_law 635 = .ok (.iadd, 1) := by decide +kernel
theorem dL_law_636 : decode cL_law 636 = .ok (.iaload, 1) := by decide +kernel
theorem dL_law_637 : decode cL_law 637 = .ok (.aload_n 3, 1) := by decide +kernel
theorem dL_law_638 : decode cL_law 638 = .ok (.invokestatic 121, 3) := by decide +kernel
theorem dL_law_641 : decode cL_law 641 = .ok (.istore 5, 2) := by decide +kernel
theorem dL_law_643 : decode cL_law 643 = .ok (.aload_n 2, 1) := by decide +kernel
theorem dL_law_644 : decode cL_law 644 = .ok (.aload_n 0, 1) := by decide +kernel
theorem dL_law_645 : decode cL_law 645 = .ok (.iload 4, 2) := by decide +kernel
theorem dL_law_647 : decode cL_law 647 = .ok (.iconst 1, 1) := by decide +kernel
theorem dL_law_648 : decode cL_law 648 = .ok (.iadd, 1) := by decide +kernel
theorem dL_law_649 : decode cL_law 649 = .ok (.iaload, 1) := by decide +kernel
theorem dL_law_650 : decode cL_law 650 = .ok (.invokevirtual 123, 3) := by decide +kernel
theorem dL_law_653 : decode cL_law 653 = .ok (.istore 6, 2) := by decide +kernel
theorem dL_law_655 : decode cL_law 655 = .ok (.aload_n 2, 1) := by decide +kernel
theorem dL_law_656 : decode cL_law 656 = .ok (.invokevirtual 97, 3) := by decide +kernel
theorem dL_law_659 : decode cL_law 659 = .ok (.iload 5, 2) := by decide +kernel
theorem dL_law_661 : decode cL_law 661 = .ok (.if_icmp .eq 5, 3) := by decide +kernel
theorem dL_law_664 : decode cL_law 664 = .ok (.iconst 0, 1) := by decide +kernel
theorem dL_law_665 : decode cL_law 665 = .ok (.ireturn, 1) := by decide +kernel
theorem dL_law_666 : decode cL_law 666 = .ok (.iload 5, 2) := by decide +kernel
theorem dL_law_668 : decode cL_law 668 = .ok (.ifCond .ne 15, 3) := by decide +kernel
theorem dL_law_671 : decode cL_law 671 = .ok (.aload_n 3, 1) := by decide +kernel
theorem dL_law_672 : decode cL_law 672 = .ok (.iconst 0, 1) := by decide +kernel
theorem dL_law_673 : decode cL_law 673 = .ok (.laload, 1) := by decide +kernel
theorem dL_law_674 : decode cL_law 674 = .ok (.iload 6, 2) := by decide +kernel
theorem dL_law_676 : decode cL_law 676 = .ok (.i2l, 1) := by decide +kernel
theorem dL_law_677 : decode cL_law 677 = .ok (.lcmp, 1) := by decide +kernel
theorem dL_law_678 : decode cL_law 678 = .ok (.ifCond .eq 5, 3) := by decide +kernel
theorem dL_law_681 : decode cL_law 681 = .ok (.iconst 0, 1) := by decide +kernel
theorem dL_law_682 : decode cL_law 682 = .ok (.ireturn, 1) := by decide +kernel
theorem dL_law_683 : decode cL_law 683 = .ok (.goto 737, 3) := by decide +kernel
theorem dL_law_686 : decode cL_law 686 = .ok (.aload_n 1, 1) := by decide +kernel
theorem dL_law_687 : decode cL_law 687 = .ok (.aload_n 0, 1) := by decide +kernel
theorem dL_law_688 : decode cL_law 688 = .ok (.iload 4, 2) := by decide +kernel
theorem dL_law_690 : decode cL_law 690 = .ok (.iconst 1, 1) := by decide +kernel
theorem dL_law_691 : decode cL_law 691 = .ok (.iadd, 1) := by decide +kernel
theorem dL_law_692 : decode cL_law 692 = .ok (.iaload, 1) := by decide +kernel
theorem dL_law_693 : decode cL_law 693 = .ok (.aload_n 0, 1) := by decide +kernel
theorem dL_law_694 : decode cL_law 694 = .ok (.iload 4, 2) := by decide +kernel
theorem dL_law_696 : decode cL_law 696 = .ok (.iconst 2, 1) := by decide +kernel
theorem dL_law_697 : decode cL_law 697 = .ok (.iadd, 1) := by decide +kernel
theorem dL_law_698 : decode cL_law 698 = .ok (.iaload, 1) := by decide +kernel
theorem dL_law_699 : decode cL_law 699 = .ok (.aload_n 0, 1) := by decide +kernel
theorem dL_law_700 : decode cL_law 700 = .ok (.iload 4, 2) := by decide +kernel
theorem dL_law_702 : decode cL_law 702 = .ok (.iconst 3, 1) := by decide +kernel
theorem dL_law_703 : decode cL_law 703 = .ok (.iadd, 1) := by decide +kernel
theorem dL_law_704 : decode cL_law 704 = .ok (.iaload, 1) := by decide +kernel
theorem dL_law_705 : decode cL_law 705 = .ok (.aload_n 3, 1) := by decide +kernel
theorem dL_law_706 : decode cL_law 706 = .ok (.invokestatic 124, 3) := by decide +kernel
theorem dL_law_709 : decode cL_law 709 = .ok (.istore 5, 2) := by decide +kernel
theorem dL_law_711 : decode cL_law 711 = .ok (.aload_n 2, 1) := by decide +kernel
theorem dL_law_712 : decode cL_law 712 = .ok (.aload_n 0, 1) := by decide +kernel
theorem dL_law_713 : decode cL_law 713 = .ok (.iload 4, 2) := by decide +kernel
theorem dL_law_715 : decode cL_law 715 = .ok (.iconst 1, 1) := by decide +kernel
theorem dL_law_716 : decode cL_law 716 = .ok (.iadd, 1) := by decide +kernel
theorem dL_law_717 : decode cL_law 717 = .ok (.iaload, 1) := by decide +kernel
theorem dL_law_718 : decode cL_law 718 = .ok (.aload_n 0, 1) := by decide +kernel
theorem dL_law_719 : decode cL_law 719 = .ok (.iload 4, 2) := by decide +kernel
theorem dL_law_721 : decode cL_law 721 = .ok (.iconst 2, 1) := by decide +kernel
theorem dL_law_722 : decode cL_law 722 = .ok (.iadd, 1) := by decide +kernel
theorem dL_law_723 : decode cL_law 723 = .ok (.iaload, 1) := by decide +kernel
theorem dL_law_724 : decode cL_law 724 = .ok (.aload_n 0, 1) := by decide +kernel
theorem dL_law_725 : decode cL_law 725 = .ok (.iload 4, 2) := by decide +kernel
theorem dL_law_727 : decode cL_law 727 = .ok (.iconst 3, 1) := by decide +kernel
theorem dL_law_728 : decode cL_law 728 = .ok (.iadd, 1) := by decide +kernel
theorem dL_law_729 : decode cL_law 729 = .ok (.iaload, 1) := by decide +kernel
theorem dL_law_730 : decode cL_law 730 = .ok (.invokevirtual 126, 3) := by decide +kernel
theorem dL_law_733 : decode cL_law 733 = .ok (.istore 6, 2) := by decide +kernel
theorem dL_law_735 : decode cL_law 735 = .ok (.aload_n 2, 1) := by decide +kernel
theorem dL_law_736 : decode cL_law 736 = .ok (.invokevirtual 97, 3) := by decide +kernel
theorem dL_law_739 : decode cL_law 739 = .ok (.iload 5, 2) := by decide +kernel
theorem dL_law_741 : decode cL_law 741 = .ok (.if_icmp .eq 5, 3) := by decide +kernel
theorem dL_law_744 : decode cL_law 744 = .ok (.iconst 0, 1) := by decide +kernel
theorem dL_law_745 : decode cL_law 745 = .ok (.ireturn, 1) := by decide +kernel
theorem dL_law_746 : decode cL_law 746 = .ok (.iload 5, 2) := by decide +kernel
theorem dL_law_748 : decode cL_law 748 = .ok (.ifCond .ne 15, 3) := by decide +kernel
theorem dL_law_751 : decode cL_law 751 = .ok (.aload_n 3, 1) := by decide +kernel
theorem dL_law_752 : decode cL_law 752 = .ok (.iconst 0, 1) := by decide +kernel
theorem dL_law_753 : decode cL_law 753 = .ok (.laload, 1) := by decide +kernel
theorem dL_law_754 : decode cL_law 754 = .ok (.iload 6, 2) := by decide +kernel
theorem dL_law_756 : decode cL_law 756 = .ok (.i2l, 1) := by decide +kernel
theorem dL_law_757 : decode cL_law 757 = .ok (.lcmp, 1) := by decide +kernel
theorem dL_law_758 : decode cL_law 758 = .ok (.ifCond .eq 5, 3) := by decide +kernel
theorem dL_law_761 : decode cL_law 761 = .ok (.iconst 0, 1) := by decide +kernel
theorem dL_law_762 : decode cL_law 762 = .ok (.ireturn, 1) := by decide +kernel
theorem dL_law_763 : decode cL_law 763 = .ok (.goto 657, 3) := by decide +kernel
theorem dL_law_766 : decode cL_law 766 = .ok (.aload_n 1, 1) := by decide +kernel
theorem dL_law_767 : decode cL_law 767 = .ok (.invokevirtual 127, 3) := by decide +kernel
theorem dL_law_770 : decode cL_law 770 = .ok (.aload_n 2, 1) := by decide +kernel
theorem dL_law_771 : decode cL_law 771 = .ok (.invokevirtual 131, 3) := by decide +kernel
theorem dL_law_774 : decode cL_law 774 = .ok (.if_icmp .eq 646, 3) := by decide +kernel
theorem dL_law_777 : decode cL_law 777 = .ok (.iconst 0, 1) := by decide +kernel
theorem dL_law_778 : decode cL_law 778 = .ok (.ireturn, 1) := by decide +kernel
theorem dL_law_779 : decode cL_law 779 = .ok (.aload_n 1, 1) := by decide +kernel
theorem dL_law_780 : decode cL_law 780 = .ok (.aload_n 0, 1) := by decide +kernel
theorem dL_law_781 : decode cL_law 781 = .ok (.iload 4, 2) := by decide +kernel
theorem dL_law_783 : decode cL_law 783 = .ok (.iconst 1, 1) := by decide +kernel
theorem dL_law_784 : decode cL_law 784 = .ok (.iadd, 1) := by decide +kernel
theorem dL_law_785 : decode cL_law 785 = .ok (.iaload, 1) := by decide +kernel
theorem dL_law_786 : decode cL_law 786 = .ok (.invokestatic 132, 3) := by decide +kernel
theorem dL_law_789 : decode cL_law 789 = .ok (.istore 5, 2) := by decide +kernel
theorem dL_law_791 : decode cL_law 791 = .ok (.aload_n 2, 1) := by decide +kernel
theorem dL_law_792 : decode cL_law 792 = .ok (.aload_n 0, 1) := by decide +kernel
theorem dL_law_793 : decode cL_law 793 = .ok (.iload 4, 2) := by decide +kernel
theorem dL_law_795 : decode cL_law 795 = .ok (.iconst 1, 1) := by decide +kernel
theorem dL_law_796 : decode cL_law 796 = .ok (.iadd, 1) := by decide +kernel
theorem dL_law_797 : decode cL_law 797 = .ok (.iaload, 1) := by decide +kernel
theorem dL_law_798 : decode cL_law 798 = .ok (.invokevirtual 135, 3) := by decide +kernel
theorem dL_law_801 : decode cL_law 801 = .ok (.aload_n 2, 1) := by decide +kernel
theorem dL_law_802 : decode cL_law 802 = .ok (.invokevirtual 97, 3) := by decide +kernel
theorem dL_law_805 : decode cL_law 805 = .ok (.iload 5, 2) := by decide +kernel
theorem dL_law_807 : decode cL_law 807 = .ok (.if_icmp .eq 5, 3) := by decide +kernel
theorem dL_law_810 : decode cL_law 810 = .ok (.iconst 0, 1) := by decide +kernel
theorem dL_law_811 : decode cL_law 811 = .ok (.ireturn, 1) := by decide +kernel
theorem dL_law_812 : decode cL_law 812 = .ok (.goto 608, 3) := by decide +kernel
theorem dL_law_815 : decode cL_law 815 = .ok (.aload_n 1, 1) := by decide +kernel
theorem dL_law_816 : decode cL_law 816 = .ok (.aload_n 0, 1) := by decide +kernel
theorem dL_law_817 : decode cL_law 817 = .ok (.iload 4, 2) := by decide +kernel
theorem dL_law_819 : decode cL_law 819 = .ok (.iconst 1, 1) := by decide +kernel
theorem dL_law_820 : decode cL_law 820 = .ok (.iadd, 1) := by decide +kernel
theorem dL_law_821 : decode cL_law 821 = .ok (.iaload, 1) := by decide +kernel
theorem dL_law_822 : decode cL_law 822 = .ok (.aload_n 0, 1) := by decide +kernel
theorem dL_law_823 : decode cL_law 823 = .ok (.iload 4, 2) := by decide +kernel
theorem dL_law_825 : decode cL_law 825 = .ok (.iconst 2, 1) := by decide +kernel
theorem dL_law_826 : decode cL_law 826 = .ok (.iadd, 1) := by decide +kernel
theorem dL_law_827 : decode cL_law 827 = .ok (.iaload, 1) := by decide +kernel
theorem dL_law_828 : decode cL_law 828 = .ok (.aload_n 3, 1) := by decide +kernel
theorem dL_law_829 : decode cL_law 829 = .ok (.invokestatic 136, 3) := by decide +kernel
theorem dL_law_832 : decode cL_law 832 = .ok (.istore 5, 2) := by decide +kernel
theorem dL_law_834 : decode cL_law 834 = .ok (.aload_n 2, 1) := by decide +kernel
theorem dL_law_835 : decode cL_law 835 = .ok (.aload_n 0, 1) := by decide +kernel
theorem dL_law_836 : decode cL_law 836 = .ok (.iload 4, 2) := by decide +kernel
theorem dL_law_838 : decode cL_law 838 = .ok (.iconst 1, 1) := by decide +kernel
theorem dL_law_839 : decode cL_law 839 = .ok (.iadd, 1) := by decide +kernel
theorem dL_law_840 : decode cL_law 840 = .ok (.iaload, 1) := by decide +kernel
theorem dL_law_841 : decode cL_law 841 = .ok (.aload_n 0, 1) := by decide +kernel
theorem dL_law_842 : decode cL_law 842 = .ok (.iload 4, 2) := by decide +kernel
theorem dL_law_844 : decode cL_law 844 = .ok (.iconst 2, 1) := by decide +kernel
theorem dL_law_845 : decode cL_law 845 = .ok (.iadd, 1) := by decide +kernel
theorem dL_law_846 : decode cL_law 846 = .ok (.iaload, 1) := by decide +kernel
theorem dL_law_847 : decode cL_law 847 = .ok (.invokevirtual 138, 3) := by decide +kernel
theorem dL_law_850 : decode cL_law 850 = .ok (.istore 6, 2) := by decide +kernel
theorem dL_law_852 : decode cL_law 852 = .ok (.aload_n 2, 1) := by decide +kernel
theorem dL_law_853 : decode cL_law 853 = .ok (.invokevirtual 97, 3) := by decide +kernel
theorem dL_law_856 : decode cL_law 856 = .ok (.iload 5, 2) := by decide +kernel
theorem dL_law_858 : decode cL_law 858 = .ok (.if_icmp .eq 5, 3) := by decide +kernel
theorem dL_law_861 : decode cL_law 861 = .ok (.iconst 0, 1) := by decide +kernel
theorem dL_law_862 : decode cL_law 862 = .ok (.ireturn, 1) := by decide +kernel
theorem dL_law_863 : decode cL_law 863 = .ok (.iload 5, 2) := by decide +kernel
theorem dL_law_865 : decode cL_law 865 = .ok (.ifCond .ne 15, 3) := by decide +kernel
theorem dL_law_868 : decode cL_law 868 = .ok (.aload_n 3, 1) := by decide +kernel
theorem dL_law_869 : decode cL_law 869 = .ok (.iconst 0, 1) := by decide +kernel
theorem dL_law_870 : decode cL_law 870 = .ok (.laload, 1) := by decide +kernel
theorem dL_law_871 : decode cL_law 871 = .ok (.iload 6, 2) := by decide +kernel
theorem dL_law_873 : decode cL_law 873 = .ok (.i2l, 1) := by decide +kernel
theorem dL_law_874 : decode cL_law 874 = .ok (.lcmp, 1) := by decide +kernel
theorem dL_law_875 : decode cL_law 875 = .ok (.ifCond .eq 5, 3) := by decide +kernel
theorem dL_law_878 : decode cL_law 878 = .ok (.iconst 0, 1) := by decide +kernel
theorem dL_law_879 : decode cL_law 879 = .ok (.ireturn, 1) := by decide +kernel
theorem dL_law_880 : decode cL_law 880 = .ok (.goto 540, 3) := by decide +kernel
theorem dL_law_883 : decode cL_law 883 = .ok (.aload_n 1, 1) := by decide +kernel
theorem dL_law_884 : decode cL_law 884 = .ok (.aload_n 3, 1) := by decide +kernel
theorem dL_law_885 : decode cL_law 885 = .ok (.invokestatic 139, 3) := by decide +kernel
theorem dL_law_888 : decode cL_law 888 = .ok (.istore 5, 2) := by decide +kernel
theorem dL_law_890 : decode cL_law 890 = .ok (.aload_n 2, 1) := by decide +kernel
theorem dL_law_891 : decode cL_law 891 = .ok (.invokevirtual 142, 3) := by decide +kernel
theorem dL_law_894 : decode cL_law 894 = .ok (.istore 6, 2) := by decide +kernel
theorem dL_law_896 : decode cL_law 896 = .ok (.aload_n 2, 1) := by decide +kernel
theorem dL_law_897 : decode cL_law 897 = .ok (.invokevirtual 97, 3) := by decide +kernel
theorem dL_law_900 : decode cL_law 900 = .ok (.iload 5, 2) := by decide +kernel
theorem dL_law_902 : decode cL_law 902 = .ok (.if_icmp .eq 5, 3) := by decide +kernel
theorem dL_law_905 : decode cL_law 905 = .ok (.iconst 0, 1) := by decide +kernel
theorem dL_law_906 : decode cL_law 906 = .ok (.ireturn, 1) := by decide +kernel
theorem dL_law_907 : decode cL_law 907 = .ok (.iload 5, 2) := by decide +kernel
theorem dL_law_909 : decode cL_law 909 = .ok (.ifCond .ne 15, 3) := by decide +kernel
theorem dL_law_912 : decode cL_law 912 = .ok (.aload_n 3, 1) := by decide +kernel
theorem dL_law_913 : decode cL_law 913 = .ok (.iconst 0, 1) := by decide +kernel
theorem dL_law_914 : decode cL_law 914 = .ok (.laload, 1) := by decide +kernel
theorem dL_law_915 : decode cL_law 915 = .ok (.iload 6, 2) := by decide +kernel
theorem dL_law_917 : decode cL_law 917 = .ok (.i2l, 1) := by decide +kernel
theorem dL_law_918 : decode cL_law 918 = .ok (.lcmp, 1) := by decide +kernel
theorem dL_law_919 : decode cL_law 919 = .ok (.ifCond .eq 5, 3) := by decide +kernel
theorem dL_law_922 : decode cL_law 922 = .ok (.iconst 0, 1) := by decide +kernel
theorem dL_law_923 : decode cL_law 923 = .ok (.ireturn, 1) := by decide +kernel
theorem dL_law_924 : decode cL_law 924 = .ok (.goto 496, 3) := by decide +kernel
theorem dL_law_927 : decode cL_law 927 = .ok (.aload_n 1, 1) := by decide +kernel
theorem dL_law_928 : decode cL_law 928 = .ok (.aload_n 0, 1) := by decide +kernel
theorem dL_law_929 : decode cL_law 929 = .ok (.iload 4, 2) := by decide +kernel
theorem dL_law_931 : decode cL_law 931 = .ok (.iconst 1, 1) := by decide +kernel
theorem dL_law_932 : decode cL_law 932 = .ok (.iadd, 1) := by decide +kernel
theorem dL_law_933 : decode cL_law 933 = .ok (.iaload, 1) := by decide +kernel
theorem dL_law_934 : decode cL_law 934 = .ok (.ifCond .eq 7, 3) := by decide +kernel
theorem dL_law_937 : decode cL_law 937 = .ok (.iconst 1, 1) := by decide +kernel
theorem dL_law_938 : decode cL_law 938 = .ok (.goto 4, 3) := by decide +kernel
theorem dL_law_941 : decode cL_law 941 = .ok (.iconst 0, 1) := by decide +kernel
theorem dL_law_942 : decode cL_law 942 = .ok (.aload_n 3, 1) := by decide +kernel
theorem dL_law_943 : decode cL_law 943 = .ok (.invokestatic 143, 3) := by decide +kernel
theorem dL_law_946 : decode cL_law 946 = .ok (.istore 5, 2) := by decide +kernel
theorem dL_law_948 : decode cL_law 948 = .ok (.aload_n 2, 1) := by decide +kernel
theorem dL_law_949 : decode cL_law 949 = .ok (.aload_n 0, 1) := by decide +kernel
theorem dL_law_950 : decode cL_law 950 = .ok (.iload 4, 2) := by decide +kernel
theorem dL_law_952 : decode cL_law 952 = .ok (.iconst 1, 1) := by decide +kernel
theorem dL_law_953 : decode cL_law 953 = .ok (.iadd, 1) := by decide +kernel
theorem dL_law_954 : decode cL_law 954 = .ok (.iaload, 1) := by decide +kernel
theorem dL_law_955 : decode cL_law 955 = .ok (.ifCond .eq 7, 3) := by decide +kernel
theorem dL_law_958 : decode cL_law 958 = .ok (.iconst 1, 1) := by decide +kernel
theorem dL_law_959 : decode cL_law 959 = .ok (.goto 4, 3) := by decide +kernel
theorem dL_law_962 : decode cL_law 962 = .ok (.iconst 0, 1) := by decide +kernel
theorem dL_law_963 : decode cL_law 963 = .ok (.invokevirtual 146, 3) := by decide +kernel
theorem dL_law_966 : decode cL_law 966 = .ok (.istore 6, 2) := by decide +kernel
theorem dL_law_968 : decode cL_law 968 = .ok (.aload_n 2, 1) := by decide +kernel
theorem dL_law_969 : decode cL_law 969 = .ok (.invokevirtual 97, 3) := by decide +kernel
theorem dL_law_972 : decode cL_law 972 = .ok (.iload 5, 2) := by decide +kernel
theorem dL_law_974 : decode cL_law 974 = .ok (.if_icmp .eq 5, 3) := by decide +kernel
theorem dL_law_977 : decode cL_law 977 = .ok (.iconst 0, 1) := by decide +kernel
theorem dL_law_978 : decode cL_law 978 = .ok (.ireturn, 1) := by decide +kernel
theorem dL_law_979 : decode cL_law 979 = .ok (.iload 5, 2) := by decide +kernel
theorem dL_law_981 : decode cL_law 981 = .ok (.ifCond .ne 15, 3) := by decide +kernel
theorem dL_law_984 : decode cL_law 984 = .ok (.aload_n 3, 1) := by decide +kernel
theorem dL_law_985 : decode cL_law 985 = .ok (.iconst 0, 1) := by decide +kernel
theorem dL_law_986 : decode cL_law 986 = .ok (.laload, 1) := by decide +kernel
theorem dL_law_987 : decode cL_law 987 = .ok (.iload 6, 2) := by decide +kernel
theorem dL_law_989 : decode cL_law 989 = .ok (.i2l, 1) := by decide +kernel
theorem dL_law_990 : decode cL_law 990 = .ok (.lcmp, 1) := by decide +kernel
theorem dL_law_991 : decode cL_law 991 = .ok (.ifCond .eq 5, 3) := by decide +kernel
theorem dL_law_994 : decode cL_law 994 = .ok (.iconst 0, 1) := by decide +kernel
theorem dL_law_995 : decode cL_law 995 = .ok (.ireturn, 1) := by decide +kernel
theorem dL_law_996 : decode cL_law 996 = .ok (.goto 424, 3) := by decide +kernel
theorem dL_law_999 : decode cL_law 999 = .ok (.aload_n 1, 1) := by decide +kernel
theorem dL_law_1000 : decode cL_law 1000 = .ok (.invokestatic 147, 3) := by decide +kernel
theorem dL_law_1003 : decode cL_law 1003 = .ok (.istore 5, 2) := by decide +kernel
theorem dL_law_1005 : decode cL_law 1005 = .ok (.aload_n 2, 1) := by decide +kernel
theorem dL_law_1006 : decode cL_law 1006 = .ok (.invokevirtual 150, 3) := by decide +kernel
theorem dL_law_1009 : decode cL_law 1009 = .ok (.aload_n 2, 1) := by decide +kernel
theorem dL_law_1010 : decode cL_law 1010 = .ok (.invokevirtual 97, 3) := by decide +kernel
theorem dL_law_1013 : decode cL_law 1013 = .ok (.iload 5, 2) := by decide +kernel
theorem dL_law_1015 : decode cL_law 1015 = .ok (.if_icmp .eq 5, 3) := by decide +kernel
theorem dL_law_1018 : decode cL_law 1018 = .ok (.iconst 0, 1) := by decide +kernel
theorem dL_law_1019 : decode cL_law 1019 = .ok (.ireturn, 1) := by decide +kernel
theorem dL_law_1020 : decode cL_law 1020 = .ok (.goto 400, 3) := by decide +kernel
theorem dL_law_1023 : decode cL_law 1023 = .ok (.aload_n 1, 1) := by decide +kernel
theorem dL_law_1024 : decode cL_law 1024 = .ok (.aload_n 0, 1) := by decide +kernel
theorem dL_law_1025 : decode cL_law 1025 = .ok (.iload 4, 2) := by decide +kernel
theorem dL_law_1027 : decode cL_law 1027 = .ok (.iconst 1, 1) := by decide +kernel
theorem dL_law_1028 : decode cL_law 1028 = .ok (.iadd, 1) := by decide +kernel
theorem dL_law_1029 : decode cL_law 1029 = .ok (.iaload, 1) := by decide +kernel
theorem dL_law_1030 : decode cL_law 1030 = .ok (.aload_n 3, 1) := by decide +kernel
theorem dL_law_1031 : decode cL_law 1031 = .ok (.invokestatic 151, 3) := by decide +kernel
theorem dL_law_1034 : decode cL_law 1034 = .ok (.istore 5, 2) := by decide +kernel
theorem dL_law_1036 : decode cL_law 1036 = .ok (.aload_n 2, 1) := by decide +kernel
theorem dL_law_1037 : decode cL_law 1037 = .ok (.aload_n 0, 1) := by decide +kernel
theorem dL_law_1038 : decode cL_law 1038 = .ok (.iload 4, 2) := by decide +kernel
theorem dL_law_1040 : decode cL_law 1040 = .ok (.iconst 1, 1) := by decide +kernel
theorem dL_law_1041 : decode cL_law 1041 = .ok (.iadd, 1) := by decide +kernel
theorem dL_law_1042 : decode cL_law 1042 = .ok (.iaload, 1) := by decide +kernel
theorem dL_law_1043 : decode cL_law 1043 = .ok (.invokevirtual 153, 3) := by decide +kernel
theorem dL_law_1046 : decode cL_law 1046 = .ok (.istore 6, 2) := by decide +kernel
theorem dL_law_1048 : decode cL_law 1048 = .ok (.aload_n 2, 1) := by decide +kernel
theorem dL_law_1049 : decode cL_law 1049 = .ok (.invokevirtual 97, 3) := by decide +kernel
theorem dL_law_1052 : decode cL_law 1052 = .ok (.iload 5, 2) := by decide +kernel
theorem dL_law_1054 : decode cL_law 1054 = .ok (.if_icmp .eq 5, 3) := by decide +kernel
theorem dL_law_1057 : decode cL_law 1057 = .ok (.iconst 0, 1) := by decide +kernel
theorem dL_law_1058 : decode cL_law 1058 = .ok (.ireturn, 1) := by decide +kernel
theorem dL_law_1059 : decode cL_law 1059 = .ok (.iload 5, 2) := by decide +kernel
theorem dL_law_1061 : decode cL_law 1061 = .ok (.ifCond .ne 15, 3) := by decide +kernel
theorem dL_law_1064 : decode cL_law 1064 = .ok (.aload_n 3, 1) := by decide +kernel
theorem dL_law_1065 : decode cL_law 1065 = .ok (.iconst 0, 1) := by decide +kernel
theorem dL_law_1066 : decode cL_law 1066 = .ok (.laload, 1) := by decide +kernel
theorem dL_law_1067 : decode cL_law 1067 = .ok (.iload 6, 2) := by decide +kernel
theorem dL_law_1069 : decode cL_law 1069 = .ok (.i2l, 1) := by decide +kernel
theorem dL_law_1070 : decode cL_law 1070 = .ok (.lcmp, 1) := by decide +kernel
theorem dL_law_1071 : decode cL_law 1071 = .ok (.ifCond .eq 5, 3) := by decide +kernel
theorem dL_law_1074 : decode cL_law 1074 = .ok (.iconst 0, 1) := by decide +kernel
theorem dL_law_1075 : decode cL_law 1075 = .ok (.ireturn, 1) := by decide +kernel
theorem dL_law_1076 : decode cL_law 1076 = .ok (.goto 344, 3) := by decide +kernel
theorem dL_law_1079 : decode cL_law 1079 = .ok (.aload_n 1, 1) := by decide +kernel
theorem dL_law_1080 : decode cL_law 1080 = .ok (.aload_n 3, 1) := by decide +kernel
theorem dL_law_1081 : decode cL_law 1081 = .ok (.invokestatic 154, 3) := by decide +kernel
theorem dL_law_1084 : decode cL_law 1084 = .ok (.istore 5, 2) := by decide +kernel
theorem dL_law_1086 : decode cL_law 1086 = .ok (.aload_n 2, 1) := by decide +kernel
theorem dL_law_1087 : decode cL_law 1087 = .ok (.invokevirtual 156, 3) := by decide +kernel
theorem dL_law_1090 : decode cL_law 1090 = .ok (.istore 6, 2) := by decide +kernel
theorem dL_law_1092 : decode cL_law 1092 = .ok (.aload_n 2, 1) := by decide +kernel
theorem dL_law_1093 : decode cL_law 1093 = .ok (.invokevirtual 97, 3) := by decide +kernel
theorem dL_law_1096 : decode cL_law 1096 = .ok (.iload 5, 2) := by decide +kernel
theorem dL_law_1098 : decode cL_law 1098 = .ok (.if_icmp .eq 5, 3) := by decide +kernel
theorem dL_law_1101 : decode cL_law 1101 = .ok (.iconst 0, 1) := by decide +kernel
theorem dL_law_1102 : decode cL_law 1102 = .ok (.ireturn, 1) := by decide +kernel
theorem dL_law_1103 : decode cL_law 1103 = .ok (.iload 5, 2) := by decide +kernel
theorem dL_law_1105 : decode cL_law 1105 = .ok (.ifCond .ne 15, 3) := by decide +kernel
theorem dL_law_1108 : decode cL_law 1108 = .ok (.aload_n 3, 1) := by decide +kernel
theorem dL_law_1109 : decode cL_law 1109 = .ok (.iconst 0, 1) := by decide +kernel
theorem dL_law_1110 : decode cL_law 1110 = .ok (.laload, 1) := by decide +kernel
theorem dL_law_1111 : decode cL_law 1111 = .ok (.iload 6, 2) := by decide +kernel
theorem dL_law_1113 : decode cL_law 1113 = .ok (.i2l, 1) := by decide +kernel
theorem dL_law_1114 : decode cL_law 1114 = .ok (.lcmp, 1) := by decide +kernel
theorem dL_law_1115 : decode cL_law 1115 = .ok (.ifCond .eq 5, 3) := by decide +kernel
theorem dL_law_1118 : decode cL_law 1118 = .ok (.iconst 0, 1) := by decide +kernel
theorem dL_law_1119 : decode cL_law 1119 = .ok (.ireturn, 1) := by decide +kernel
theorem dL_law_1120 : decode cL_law 1120 = .ok (.goto 300, 3) := by decide +kernel
theorem dL_law_1123 : decode cL_law 1123 = .ok (.aload_n 1, 1) := by decide +kernel
theorem dL_law_1124 : decode cL_law 1124 = .ok (.aload_n 0, 1) := by decide +kernel
theorem dL_law_1125 : decode cL_law 1125 = .ok (.iload 4, 2) := by decide +kernel
theorem dL_law_1127 : decode cL_law 1127 = .ok (.iconst 1, 1) := by decide +kernel
theorem dL_law_1128 : decode cL_law 1128 = .ok (.iadd, 1) := by decide +kernel
theorem dL_law_1129 : decode cL_law 1129 = .ok (.iaload, 1) := by decide +kernel
theorem dL_law_1130 : decode cL_law 1130 = .ok (.aload_n 3, 1) := by decide +kernel
theorem dL_law_1131 : decode cL_law 1131 = .ok (.invokestatic 157, 3) := by decide +kernel
theorem dL_law_1134 : decode cL_law 1134 = .ok (.istore 5, 2) := by decide +kernel
theorem dL_law_1136 : decode cL_law 1136 = .ok (.aload_n 2, 1) := by decide +kernel
theorem dL_law_1137 : decode cL_law 1137 = .ok (.aload_n 0, 1) := by decide +kernel
theorem dL_law_1138 : decode cL_law 1138 = .ok (.iload 4, 2) := by decide +kernel
theorem dL_law_1140 : decode cL_law 1140 = .ok (.iconst 1, 1) := by decide +kernel
theorem dL_law_1141 : decode cL_law 1141 = .ok (.iadd, 1) := by decide +kernel
theorem dL_law_1142 : decode cL_law 1142 = .ok (.iaload, 1) := by decide +kernel
theorem dL_law_1143 : decode cL_law 1143 = .ok (.invokevirtual 159, 3) := by decide +kernel
theorem dL_law_1146 : decode cL_law 1146 = .ok (.istore 6, 2) := by decide +kernel
theorem dL_law_1148 : decode cL_law 1148 = .ok (.aload_n 2, 1) := by decide +kernel
theorem dL_law_1149 : decode cL_law 1149 = .ok (.invokevirtual 97, 3) := by decide +kernel
theorem dL_law_1152 : decode cL_law 1152 = .ok (.iload 5, 2) := by decide +kernel
theorem dL_law_1154 : decode cL_law 1154 = .ok (.if_icmp .eq 5, 3) := by decide +kernel
theorem dL_law_1157 : decode cL_law 1157 = .ok (.iconst 0, 1) := by decide +kernel
theorem dL_law_1158 : decode cL_law 1158 = .ok (.ireturn, 1) := by decide +kernel
theorem dL_law_1159 : decode cL_law 1159 = .ok (.iload 5, 2) := by decide +kernel
theorem dL_law_1161 : decode cL_law 1161 = .ok (.ifCond .ne 15, 3) := by decide +kernel
theorem dL_law_1164 : decode cL_law 1164 = .ok (.aload_n 3, 1) := by decide +kernel
theorem dL_law_1165 : decode cL_law 1165 = .ok (.iconst 0, 1) := by decide +kernel
theorem dL_law_1166 : decode cL_law 1166 = .ok (.laload, 1) := by decide +kernel
theorem dL_law_1167 : decode cL_law 1167 = .ok (.iload 6, 2) := by decide +kernel
theorem dL_law_1169 : decode cL_law 1169 = .ok (.i2l, 1) := by decide +kernel
theorem dL_law_1170 : decode cL_law 1170 = .ok (.lcmp, 1) := by decide +kernel
theorem dL_law_1171 : decode cL_law 1171 = .ok (.ifCond .eq 5, 3) := by decide +kernel
theorem dL_law_1174 : decode cL_law 1174 = .ok (.iconst 0, 1) := by decide +kernel
theorem dL_law_1175 : decode cL_law 1175 = .ok (.ireturn, 1) := by decide +kernel
theorem dL_law_1176 : decode cL_law 1176 = .ok (.goto 244, 3) := by decide +kernel
theorem dL_law_1179 : decode cL_law 1179 = .ok (.aload_n 1, 1) := by decide +kernel
theorem dL_law_1180 : decode cL_law 1180 = .ok (.aload_n 0, 1) := by decide +kernel
theorem dL_law_1181 : decode cL_law 1181 = .ok (.iload 4, 2) := by decide +kernel
theorem dL_law_1183 : decode cL_law 1183 = .ok (.iconst 1, 1) := by decide +kernel
theorem dL_law_1184 : decode cL_law 1184 = .ok (.iadd, 1) := by decide +kernel
theorem dL_law_1185 : decode cL_law 1185 = .ok (.iaload, 1) := by decide +kernel
theorem dL_law_1186 : decode cL_law 1186 = .ok (.aload_n 0, 1) := by decide +kernel
theorem dL_law_1187 : decode cL_law 1187 = .ok (.iload 4, 2) := by decide +kernel
theorem dL_law_1189 : decode cL_law 1189 = .ok (.iconst 2, 1) := by decide +kernel
theorem dL_law_1190 : decode cL_law 1190 = .ok (.iadd, 1) := by decide +kernel
theorem dL_law_1191 : decode cL_law 1191 = .ok (.iaload, 1) := by decide +kernel
theorem dL_law_1192 : decode cL_law 1192 = .ok (.aload_n 0, 1) := by decide +kernel
theorem dL_law_1193 : decode cL_law 1193 = .ok (.iload 4, 2) := by decide +kernel
theorem dL_law_1195 : decode cL_law 1195 = .ok (.iconst 3, 1) := by decide +kernel
theorem dL_law_1196 : decode cL_law 1196 = .ok (.iadd, 1) := by decide +kernel
theorem dL_law_1197 : decode cL_law 1197 = .ok (.iaload, 1) := by decide +kernel
theorem dL_law_1198 : decode cL_law 1198 = .ok (.aload_n 3, 1) := by decide +kernel
theorem dL_law_1199 : decode cL_law 1199 = .ok (.invokestatic 160, 3) := by decide +kernel
theorem dL_law_1202 : decode cL_law 1202 = .ok (.istore 5, 2) := by decide +kernel
theorem dL_law_1204 : decode cL_law 1204 = .ok (.aload_n 2, 1) := by decide +kernel
theorem dL_law_1205 : decode cL_law 1205 = .ok (.aload_n 0, 1) := by decide +kernel
theorem dL_law_1206 : decode cL_law 1206 = .ok (.iload 4, 2) := by decide +kernel
theorem dL_law_1208 : decode cL_law 1208 = .ok (.iconst 1, 1) := by decide +kernel
theorem dL_law_1209 : decode cL_law 1209 = .ok (.iadd, 1) := by decide +kernel
theorem dL_law_1210 : decode cL_law 1210 = .ok (.iaload, 1) := by decide +kernel
theorem dL_law_1211 : decode cL_law 1211 = .ok (.aload_n 0, 1) := by decide +kernel
theorem dL_law_1212 : decode cL_law 1212 = .ok (.iload 4, 2) := by decide +kernel
theorem dL_law_1214 : decode cL_law 1214 = .ok (.iconst 2, 1) := by decide +kernel
theorem dL_law_1215 : decode cL_law 1215 = .ok (.iadd, 1) := by decide +kernel
theorem dL_law_1216 : decode cL_law 1216 = .ok (.iaload, 1) := by decide +kernel
theorem dL_law_1217 : decode cL_law 1217 = .ok (.aload_n 0, 1) := by decide +kernel
theorem dL_law_1218 : decode cL_law 1218 = .ok (.iload 4, 2) := by decide +kernel
theorem dL_law_1220 : decode cL_law 1220 = .ok (.iconst 3, 1) := by decide +kernel
theorem dL_law_1221 : decode cL_law 1221 = .ok (.iadd, 1) := by decide +kernel
theorem dL_law_1222 : decode cL_law 1222 = .ok (.iaload, 1) := by decide +kernel
theorem dL_law_1223 : decode cL_law 1223 = .ok (.invokevirtual 162, 3) := by decide +kernel
theorem dL_law_1226 : decode cL_law 1226 = .ok (.istore 6, 2) := by decide +kernel
theorem dL_law_1228 : decode cL_law 1228 = .ok (.aload_n 2, 1) := by decide +kernel
theorem dL_law_1229 : decode cL_law 1229 = .ok (.invokevirtual 97, 3) := by decide +kernel
theorem dL_law_1232 : decode cL_law 1232 = .ok (.iload 5, 2) := by decide +kernel
theorem dL_law_1234 : decode cL_law 1234 = .ok (.if_icmp .eq 5, 3) := by decide +kernel
theorem dL_law_1237 : decode cL_law 1237 = .ok (.iconst 0, 1) := by decide +kernel
theorem dL_law_1238 : decode cL_law 1238 = .ok (.ireturn, 1) := by decide +kernel
theorem dL_law_1239 : decode cL_law 1239 = .ok (.iload 5, 2) := by decide +kernel
theorem dL_law_1241 : decode cL_law 1241 = .ok (.ifCond .ne 15, 3) := by decide +kernel
theorem dL_law_1244 : decode cL_law 1244 = .ok (.aload_n 3, 1) := by decide +kernel
theorem dL_law_1245 : decode cL_law 1245 = .ok (.iconst 0, 1) := by decide +kernel
theorem dL_law_1246 : decode cL_law 1246 = .ok (.laload, 1) := by decide +kernel
theorem dL_law_1247 : decode cL_law 1247 = .ok (.iload 6, 2) := by decide +kernel
theorem dL_law_1249 : decode cL_law 1249 = .ok (.i2l, 1) := by decide +kernel
theorem dL_law_1250 : decode cL_law 1250 = .ok (.lcmp, 1) := by decide +kernel
theorem dL_law_1251 : decode cL_law 1251 = .ok (.ifCond .eq 5, 3) := by decide +kernel
theorem dL_law_1254 : decode cL_law 1254 = .ok (.iconst 0, 1) := by decide +kernel
theorem dL_law_1255 : decode cL_law 1255 = .ok (.ireturn, 1) := by decide +kernel
theorem dL_law_1256 : decode cL_law 1256 = .ok (.goto 164, 3) := by decide +kernel
theorem dL_law_1259 : decode cL_law 1259 = .ok (.aload_n 1, 1) := by decide +kernel
theorem dL_law_1260 : decode cL_law 1260 = .ok (.aload_n 0, 1) := by decide +kernel
theorem dL_law_1261 : decode cL_law 1261 = .ok (.iload 4, 2) := by decide +kernel
theorem dL_law_1263 : decode cL_law 1263 = .ok (.iconst 1, 1) := by decide +kernel
theorem dL_law_1264 : decode cL_law 1264 = .ok (.iadd, 1) := by decide +kernel
theorem dL_law_1265 : decode cL_law 1265 = .ok (.iaload, 1) := by decide +kernel
theorem dL_law_1266 : decode cL_law 1266 = .ok (.aload_n 0, 1) := by decide +kernel
theorem dL_law_1267 : decode cL_law 1267 = .ok (.iload 4, 2) := by decide +kernel
theorem dL_law_1269 : decode cL_law 1269 = .ok (.iconst 2, 1) := by decide +kernel
theorem dL_law_1270 : decode cL_law 1270 = .ok (.iadd, 1) := by decide +kernel
theorem dL_law_1271 : decode cL_law 1271 = .ok (.iaload, 1) := by decide +kernel
theorem dL_law_1272 : decode cL_law 1272 = .ok (.aload_n 3, 1) := by decide +kernel
theorem dL_law_1273 : decode cL_law 1273 = .ok (.invokestatic 163, 3) := by decide +kernel
theorem dL_law_1276 : decode cL_law 1276 = .ok (.istore 5, 2) := by decide +kernel
theorem dL_law_1278 : decode cL_law 1278 = .ok (.aload_n 2, 1) := by decide +kernel
theorem dL_law_1279 : decode cL_law 1279 = .ok (.aload_n 0, 1) := by decide +kernel
theorem dL_law_1280 : decode cL_law 1280 = .ok (.iload 4, 2) := by decide +kernel
theorem dL_law_1282 : decode cL_law 1282 = .ok (.iconst 1, 1) := by decide +kernel
theorem dL_law_1283 : decode cL_law 1283 = .ok (.iadd, 1) := by decide +kernel
theorem dL_law_1284 : decode cL_law 1284 = .ok (.iaload, 1) := by decide +kernel
theorem dL_law_1285 : decode cL_law 1285 = .ok (.aload_n 0, 1) := by decide +kernel
theorem dL_law_1286 : decode cL_law 1286 = .ok (.iload 4, 2) := by decide +kernel
theorem dL_law_1288 : decode cL_law 1288 = .ok (.iconst 2, 1) := by decide +kernel
theorem dL_law_1289 : decode cL_law 1289 = .ok (.iadd, 1) := by decide +kernel
theorem dL_law_1290 : decode cL_law 1290 = .ok (.iaload, 1) := by decide +kernel
theorem dL_law_1291 : decode cL_law 1291 = .ok (.invokevirtual 165, 3) := by decide +kernel
theorem dL_law_1294 : decode cL_law 1294 = .ok (.istore 6, 2) := by decide +kernel
theorem dL_law_1296 : decode cL_law 1296 = .ok (.aload_n 2, 1) := by decide +kernel
theorem dL_law_1297 : decode cL_law 1297 = .ok (.invokevirtual 97, 3) := by decide +kernel
theorem dL_law_1300 : decode cL_law 1300 = .ok (.iload 5, 2) := by decide +kernel
theorem dL_law_1302 : decode cL_law 1302 = .ok (.if_icmp .eq 5, 3) := by decide +kernel
theorem dL_law_1305 : decode cL_law 1305 = .ok (.iconst 0, 1) := by decide +kernel
theorem dL_law_1306 : decode cL_law 1306 = .ok (.ireturn, 1) := by decide +kernel
theorem dL_law_1307 : decode cL_law 1307 = .ok (.iload 5, 2) := by decide +kernel
theorem dL_law_1309 : decode cL_law 1309 = .ok (.ifCond .ne 15, 3) := by decide +kernel
theorem dL_law_1312 : decode cL_law 1312 = .ok (.aload_n 3, 1) := by decide +kernel
theorem dL_law_1313 : decode cL_law 1313 = .ok (.iconst 0, 1) := by decide +kernel
theorem dL_law_1314 : decode cL_law 1314 = .ok (.laload, 1) := by decide +kernel
theorem dL_law_1315 : decode cL_law 1315 = .ok (.iload 6, 2) := by decide +kernel
theorem dL_law_1317 : decode cL_law 1317 = .ok (.i2l, 1) := by decide +kernel
theorem dL_law_1318 : decode cL_law 1318 = .ok (.lcmp, 1) := by decide +kernel
theorem dL_law_1319 : decode cL_law 1319 = .ok (.ifCond .eq 5, 3) := by decide +kernel
theorem dL_law_1322 : decode cL_law 1322 = .ok (.iconst 0, 1) := by decide +kernel
theorem dL_law_1323 : decode cL_law 1323 = .ok (.ireturn, 1) := by decide +kernel
theorem dL_law_1324 : decode cL_law 1324 = .ok (.goto 96, 3) := by decide +kernel
theorem dL_law_1327 : decode cL_law 1327 = .ok (.aload_n 1, 1) := by decide +kernel
theorem dL_law_1328 : decode cL_law 1328 = .ok (.aload_n 0, 1) := by decide +kernel
theorem dL_law_1329 : decode cL_law 1329 = .ok (.iload 4, 2) := by decide +kernel
theorem dL_law_1331 : decode cL_law 1331 = .ok (.iconst 1, 1) := by decide +kernel
theorem dL_law_1332 : decode cL_law 1332 = .ok (.iadd, 1) := by decide +kernel
theorem dL_law_1333 : decode cL_law 1333 = .ok (.iaload, 1) := by decide +kernel
theorem dL_law_1334 : decode cL_law 1334 = .ok (.aload_n 0, 1) := by decide +kernel
theorem dL_law_1335 : decode cL_law 1335 = .ok (.iload 4, 2) := by decide +kernel
theorem dL_law_1337 : decode cL_law 1337 = .ok (.iconst 2, 1) := by decide +kernel
theorem dL_law_1338 : decode cL_law 1338 = .ok (.iadd, 1) := by decide +kernel
theorem dL_law_1339 : decode cL_law 1339 = .ok (.iaload, 1) := by decide +kernel
theorem dL_law_1340 : decode cL_law 1340 = .ok (.aload_n 3, 1) := by decide +kernel
theorem dL_law_1341 : decode cL_law 1341 = .ok (.invokestatic 166, 3) := by decide +kernel
theorem dL_law_1344 : decode cL_law 1344 = .ok (.istore 5, 2) := by decide +kernel
theorem dL_law_1346 : decode cL_law 1346 = .ok (.aload_n 2, 1) := by decide +kernel
theorem dL_law_1347 : decode cL_law 1347 = .ok (.aload_n 0, 1) := by decide +kernel
theorem dL_law_1348 : decode cL_law 1348 = .ok (.iload 4, 2) := by decide +kernel
theorem dL_law_1350 : decode cL_law 1350 = .ok (.iconst 1, 1) := by decide +kernel
theorem dL_law_1351 : decode cL_law 1351 = .ok (.iadd, 1) := by decide +kernel
theorem dL_law_1352 : decode cL_law 1352 = .ok (.iaload, 1) := by decide +kernel
theorem dL_law_1353 : decode cL_law 1353 = .ok (.aload_n 0, 1) := by decide +kernel
theorem dL_law_1354 : decode cL_law 1354 = .ok (.iload 4, 2) := by decide +kernel
theorem dL_law_1356 : decode cL_law 1356 = .ok (.iconst 2, 1) := by decide +kernel
theorem dL_law_1357 : decode cL_law 1357 = .ok (.iadd, 1) := by decide +kernel
theorem dL_law_1358 : decode cL_law 1358 = .ok (.iaload, 1) := by decide +kernel
theorem dL_law_1359 : decode cL_law 1359 = .ok (.invokevirtual 168, 3) := by decide +kernel
theorem dL_law_1362 : decode cL_law 1362 = .ok (.istore 6, 2) := by decide +kernel
theorem dL_law_1364 : decode cL_law 1364 = .ok (.aload_n 2, 1) := by decide +kernel
theorem dL_law_1365 : decode cL_law 1365 = .ok (.invokevirtual 97, 3) := by decide +kernel
theorem dL_law_1368 : decode cL_law 1368 = .ok (.iload 5, 2) := by decide +kernel
theorem dL_law_1370 : decode cL_law 1370 = .ok (.if_icmp .eq 5, 3) := by decide +kernel
theorem dL_law_1373 : decode cL_law 1373 = .ok (.iconst 0, 1) := by decide +kernel
theorem dL_law_1374 : decode cL_law 1374 = .ok (.ireturn, 1) := by decide +kernel
theorem dL_law_1375 : decode cL_law 1375 = .ok (.iload 5, 2) := by decide +kernel
theorem dL_law_1377 : decode cL_law 1377 = .ok (.ifCond .ne 15, 3) := by decide +kernel
theorem dL_law_1380 : decode cL_law 1380 = .ok (.aload_n 3, 1) := by decide +kernel
theorem dL_law_1381 : decode cL_law 1381 = .ok (.iconst 0, 1) := by decide +kernel
theorem dL_law_1382 : decode cL_law 1382 = .ok (.laload, 1) := by decide +kernel
theorem dL_law_1383 : decode cL_law 1383 = .ok (.iload 6, 2) := by decide +kernel
theorem dL_law_1385 : decode cL_law 1385 = .ok (.i2l, 1) := by decide +kernel
theorem dL_law_1386 : decode cL_law 1386 = .ok (.lcmp, 1) := by decide +kernel
theorem dL_law_1387 : decode cL_law 1387 = .ok (.ifCond .eq 5, 3) := by decide +kernel
theorem dL_law_1390 : decode cL_law 1390 = .ok (.iconst 0, 1) := by decide +kernel
theorem dL_law_1391 : decode cL_law 1391 = .ok (.ireturn, 1) := by decide +kernel
theorem dL_law_1392 : decode cL_law 1392 = .ok (.goto 28, 3) := by decide +kernel
theorem dL_law_1395 : decode cL_law 1395 = .ok (.aload_n 1, 1) := by decide +kernel
theorem dL_law_1396 : decode cL_law 1396 = .ok (.aload_n 0, 1) := by decide +kernel
theorem dL_law_1397 : decode cL_law 1397 = .ok (.iload 4, 2) := by decide +kernel
theorem dL_law_1399 : decode cL_law 1399 = .ok (.iconst 1, 1) := by decide +kernel
theorem dL_law_1400 : decode cL_law 1400 = .ok (.iadd, 1) := by decide +kernel
theorem dL_law_1401 : decode cL_law 1401 = .ok (.iaload, 1) := by decide +kernel
theorem dL_law_1402 : decode cL_law 1402 = .ok (.invokevirtual 169, 3) := by decide +kernel
theorem dL_law_1405 : decode cL_law 1405 = .ok (.aload_n 2, 1) := by decide +kernel
theorem dL_law_1406 : decode cL_law 1406 = .ok (.aload_n 0, 1) := by decide +kernel
theorem dL_law_1407 : decode cL_law 1407 = .ok (.iload 4, 2) := by decide +kernel
theorem dL_law_1409 : decode cL_law 1409 = .ok (.iconst 1, 1) := by decide +kernel
theorem dL_law_1410 : decode cL_law 1410 = .ok (.iadd, 1) := by decide +kernel
theorem dL_law_1411 : decode cL_law 1411 = .ok (.iaload, 1) := by decide +kernel
theorem dL_law_1412 : decode cL_law 1412 = .ok (.invokevirtual 172, 3) := by decide +kernel
theorem dL_law_1415 : decode cL_law 1415 = .ok (.if_icmp .eq 5, 3) := by decide +kernel
theorem dL_law_1418 : decode cL_law 1418 = .ok (.iconst 0, 1) := by decide +kernel
theorem dL_law_1419 : decode cL_law 1419 = .ok (.ireturn, 1) := by decide +kernel
theorem dL_law_1420 : decode cL_law 1420 = .ok (.iinc 4 6, 3) := by decide +kernel
theorem dL_law_1423 : decode cL_law 1423 = .ok (.goto (-1400), 3) := by decide +kernel
theorem dL_law_1426 : decode cL_law 1426 = .ok (.iconst 1, 1) := by decide +kernel
theorem dL_law_1427 : decode cL_law 1427 = .ok (.ireturn, 1) := by decide +kernel