/-! the helpers' frame, words and rows -/
theorem HCon.of {l : Launch} {d : Nat} {y : MethodName} {cc : ByteArray} {nL : Nat} {hh : List (Nat × Nat × Nat × Nat)} {avs : Nat → Nat → List Value} {σ : HS} {pl : List Nat} {mc ms : Nat} {Θ : (Nat → Int64) → Int32 → HS → List Nat → (Nat → Int64) → Prop}
    (hy : plainName y.cls = true) (hy2 : y.cls = RL) (hn : ∀ a b, (lg_sl (avs a b)).length ≤ nL)
    (h : ∀ (X : Ctx) (ao : Nat) (U : Nat → Int64) (la : Array Slot), xl X = l → FLx X cc RL nL → xR X = rmD d mc ms → HE X mc ms ao U (Θ U) → (Cond.codeWith y cc nL (some .int) hh).before (xargs X) (xs X) = true → (∀ bytes maxL' ret' hh', (Cond.codeWith y bytes maxL' ret' hh').before (xargs X) (xs X) = true → (xc X).exceptionTable.toList = hh'.map (fun q => ⟨q.1, q.2.1, q.2.2.1, q.2.2.2⟩)) → va_P (xD X) vwCl (wl (xcy X) (xad X) σ pl) (xs X).heap → va_P (xD X) vwCl [oC (xcy X) ao U] (xs X).heap → va_D (xA X) (wl (xcy X) (xad X) σ pl) → apt (wl (xcy X) (xad X) σ pl) [oC (xcy X) ao U] → xA X ao → xpl X = pl → lv_has la nL (lv_args 0 (avs (xad X 100) ao)) → WX X (xs X).heap [] 0 0 (xQ X) (F0 (xm X) 0 la [])) : HCon l d y cc nL hh avs σ pl mc ms Θ := by
  intro D cy sz ad ao U
  refine vx_ofWH (cc := cc) (maxL := nL) (ret := some .int) (hh := hh) hy rfl ?_
  intro p e s m args below meth c s₁ B hml hv
  obtain ⟨rfl, hsz, hP, hPo, hK, hD0, hap, hSW, hEW⟩ := hv
  subst hsz
  have hts := atoms_spec (ws := Cond.codeWith y cc nL (some .int) hh :: lwG) B.pre
  have hao : va_A (wl cy ad σ pl ++ [oC cy ao U]) s.heap.size ao := Or.inl ⟨(wl cy ad σ pl).length, _, by rw [List.getElem?_append_right (Nat.le_refl _), Nat.sub_self]; rfl⟩
  have hD : va_D (va_A (wl cy ad σ pl ++ [oC cy ao U]) s.heap.size) (wl cy ad σ pl) := ⟨hD0.1, fun k q hk => Or.inl ⟨k, q.2, by rw [List.getElem?_append_left (List.getElem?_eq_some_iff.mp hk).1]; exact hk⟩⟩
  have k := h (p, l, e, rmD d mc ms, s, m, (avs (ad 100) ao).toArray, below, meth, c, D, cy, va_A (wl cy ad σ pl ++ [oC cy ao U]) s.heap.size, σ, pl, ad, vx_MQ below (hPost D cy s.heap.size ad σ pl ao U (Θ U)) (fun _ _ _ => False) (avs (ad 100) ao).toArray s mc ms (va_A (wl cy ad σ pl ++ [oC cy ao U]) s.heap.size)) ao U _ rfl
    ⟨B.exec, B.bytes, hml, by rw [← hy2]; exact findClass_of_methodNamed B.named, fun w hw => hts w (List.mem_cons_of_mem _ hw), hK, fun q hq => Or.inr hq, B.notSynchronized, hSW, hEW⟩ rfl
    ⟨B.returns, rfl, rfl⟩ (hts _ List.mem_cons_self) (fun bytes maxL' ret' hh' hw => vx_table (x := y) B hw) hP hPo hD hap hao rfl (lv_entry _ (hn _ _))
  rw [lg_entry_eq]
  exact k
theorem cw_yX11_position : Cond.code yX11_position cX11_position 2 (some .int) ∈ lwG := tm2 (List.mem_of_getElem? (i := 200) (by decide +kernel)) (by decide +kernel)
theorem im_yX11_position : Cond.instanceMethod yX11_position ∈ lwG := tm2 (List.mem_of_getElem? (i := 198) (by decide +kernel)) (by decide +kernel)
theorem se_yX11_position : Cond.selects yX11_position.cls yX11_position yX11_position ∈ lwG := tm2 (List.mem_of_getElem? (i := 199) (by decide +kernel)) (by decide +kernel)
theorem ml_L_7 : ML RL 7 yX11_position cX11_position 2 (some .int) 1 := ⟨tm2 (List.mem_of_getElem? (i := 197) (by decide +kernel)) (by decide +kernel), cw_yX11_position, in_11, by decide, by decide +kernel, by decide +kernel⟩
theorem cw_yX11_men : Cond.code yX11_men cX11_men 3 (some .int) ∈ lwG := tm3 (List.mem_of_getElem? (i := 143) (by decide +kernel)) (by decide +kernel)
theorem im_yX11_men : Cond.instanceMethod yX11_men ∈ lwG := tm3 (List.mem_of_getElem? (i := 141) (by decide +kernel)) (by decide +kernel)
theorem se_yX11_men : Cond.selects yX11_men.cls yX11_men yX11_men ∈ lwG := tm3 (List.mem_of_getElem? (i := 142) (by decide +kernel)) (by decide +kernel)
theorem ml_L_17 : ML RL 17 yX11_men cX11_men 3 (some .int) 2 := ⟨tm3 (List.mem_of_getElem? (i := 140) (by decide +kernel)) (by decide +kernel), cw_yX11_men, in_11, by decide, by decide +kernel, by decide +kernel⟩
theorem cw_yX11_ask : Cond.code yX11_ask cX11_ask 2 (some .int) ∈ lwG := tm3 (List.mem_of_getElem? (i := 170) (by decide +kernel)) (by decide +kernel)
theorem im_yX11_ask : Cond.instanceMethod yX11_ask ∈ lwG := tm3 (List.mem_of_getElem? (i := 168) (by decide +kernel)) (by decide +kernel)
theorem se_yX11_ask : Cond.selects yX11_ask.cls yX11_ask yX11_ask ∈ lwG := tm3 (List.mem_of_getElem? (i := 169) (by decide +kernel)) (by decide +kernel)
theorem ml_L_23 : ML RL 23 yX11_ask cX11_ask 2 (some .int) 1 := ⟨tm3 (List.mem_of_getElem? (i := 167) (by decide +kernel)) (by decide +kernel), cw_yX11_ask, in_11, by decide, by decide +kernel, by decide +kernel⟩
theorem cw_yX11_plays : Cond.code yX11_plays cX11_plays 3 (some .int) ∈ lwG := tm3 (List.mem_of_getElem? (i := 187) (by decide +kernel)) (by decide +kernel)
theorem im_yX11_plays : Cond.instanceMethod yX11_plays ∈ lwG := tm3 (List.mem_of_getElem? (i := 185) (by decide +kernel)) (by decide +kernel)
theorem se_yX11_plays : Cond.selects yX11_plays.cls yX11_plays yX11_plays ∈ lwG := tm3 (List.mem_of_getElem? (i := 186) (by decide +kernel)) (by decide +kernel)
theorem ml_L_26 : ML RL 26 yX11_plays cX11_plays 3 (some .int) 2 := ⟨tm3 (List.mem_of_getElem? (i := 184) (by decide +kernel)) (by decide +kernel), cw_yX11_plays, in_11, by decide, by decide +kernel, by decide +kernel⟩
theorem cw_yX11_result : Cond.code yX11_result cX11_result 4 (some .int) ∈ lwG := tm4 (List.mem_of_getElem? (i := 58) (by decide +kernel)) (by decide +kernel)
theorem im_yX11_result : Cond.instanceMethod yX11_result ∈ lwG := tm4 (List.mem_of_getElem? (i := 56) (by decide +kernel)) (by decide +kernel)
theorem se_yX11_result : Cond.selects yX11_result.cls yX11_result yX11_result ∈ lwG := tm4 (List.mem_of_getElem? (i := 57) (by decide +kernel)) (by decide +kernel)
theorem ml_L_29 : ML RL 29 yX11_result cX11_result 4 (some .int) 3 := ⟨tm4 (List.mem_of_getElem? (i := 55) (by decide +kernel)) (by decide +kernel), cw_yX11_result, in_11, by decide, by decide +kernel, by decide +kernel⟩
theorem cw_yX11_way : Cond.code yX11_way cX11_way 3 (some .int) ∈ lwG := tm4 (List.mem_of_getElem? (i := 89) (by decide +kernel)) (by decide +kernel)
theorem im_yX11_way : Cond.instanceMethod yX11_way ∈ lwG := tm4 (List.mem_of_getElem? (i := 87) (by decide +kernel)) (by decide +kernel)
theorem se_yX11_way : Cond.selects yX11_way.cls yX11_way yX11_way ∈ lwG := tm4 (List.mem_of_getElem? (i := 88) (by decide +kernel)) (by decide +kernel)
theorem ml_L_35 : ML RL 35 yX11_way cX11_way 3 (some .int) 2 := ⟨tm4 (List.mem_of_getElem? (i := 86) (by decide +kernel)) (by decide +kernel), cw_yX11_way, in_11, by decide, by decide +kernel, by decide +kernel⟩
theorem cw_yX11_choose : Cond.code yX11_choose cX11_choose 3 (some .int) ∈ lwG := tm4 (List.mem_of_getElem? (i := 100) (by decide +kernel)) (by decide +kernel)
theorem im_yX11_choose : Cond.instanceMethod yX11_choose ∈ lwG := tm4 (List.mem_of_getElem? (i := 98) (by decide +kernel)) (by decide +kernel)
theorem se_yX11_choose : Cond.selects yX11_choose.cls yX11_choose yX11_choose ∈ lwG := tm4 (List.mem_of_getElem? (i := 99) (by decide +kernel)) (by decide +kernel)
theorem ml_L_38 : ML RL 38 yX11_choose cX11_choose 3 (some .int) 1 := ⟨tm4 (List.mem_of_getElem? (i := 97) (by decide +kernel)) (by decide +kernel), cw_yX11_choose, in_11, by decide, by decide +kernel, by decide +kernel⟩
theorem cw_yX11_say : Cond.code yX11_say cX11_say 5 (some .int) ∈ lwG := tm4 (List.mem_of_getElem? (i := 133) (by decide +kernel)) (by decide +kernel)
theorem im_yX11_say : Cond.instanceMethod yX11_say ∈ lwG := tm4 (List.mem_of_getElem? (i := 131) (by decide +kernel)) (by decide +kernel)
theorem se_yX11_say : Cond.selects yX11_say.cls yX11_say yX11_say ∈ lwG := tm4 (List.mem_of_getElem? (i := 132) (by decide +kernel)) (by decide +kernel)
theorem ml_L_41 : ML RL 41 yX11_say cX11_say 5 (some .int) 3 := ⟨tm4 (List.mem_of_getElem? (i := 130) (by decide +kernel)) (by decide +kernel), cw_yX11_say, in_11, by decide, by decide +kernel, by decide +kernel⟩
theorem cw_yX11_begin : Cond.code yX11_begin cX11_begin 2 none ∈ lwG := tm4 (List.mem_of_getElem? (i := 188) (by decide +kernel)) (by decide +kernel)
theorem im_yX11_begin : Cond.instanceMethod yX11_begin ∈ lwG := tm4 (List.mem_of_getElem? (i := 186) (by decide +kernel)) (by decide +kernel)
theorem se_yX11_begin : Cond.selects yX11_begin.cls yX11_begin yX11_begin ∈ lwG := tm4 (List.mem_of_getElem? (i := 187) (by decide +kernel)) (by decide +kernel)
theorem ml_L_44 : ML RL 44 yX11_begin cX11_begin 2 none 1 := ⟨tm4 (List.mem_of_getElem? (i := 185) (by decide +kernel)) (by decide +kernel), cw_yX11_begin, in_11, by decide, by decide +kernel, by decide +kernel⟩
theorem cw_yX11_roll : Cond.code yX11_roll cX11_roll 3 (some .int) ∈ lwG := tm4 (List.mem_of_getElem? (i := 212) (by decide +kernel)) (by decide +kernel)
theorem im_yX11_roll : Cond.instanceMethod yX11_roll ∈ lwG := tm4 (List.mem_of_getElem? (i := 210) (by decide +kernel)) (by decide +kernel)
theorem se_yX11_roll : Cond.selects yX11_roll.cls yX11_roll yX11_roll ∈ lwG := tm4 (List.mem_of_getElem? (i := 211) (by decide +kernel)) (by decide +kernel)
theorem ml_L_48 : ML RL 48 yX11_roll cX11_roll 3 (some .int) 2 := ⟨tm4 (List.mem_of_getElem? (i := 209) (by decide +kernel)) (by decide +kernel), cw_yX11_roll, in_11, by decide, by decide +kernel, by decide +kernel⟩
theorem cw_yX11_offer : Cond.code yX11_offer cX11_offer 1 (some .int) ∈ lwG := tm4 (List.mem_of_getElem? (i := 229) (by decide +kernel)) (by decide +kernel)
theorem im_yX11_offer : Cond.instanceMethod yX11_offer ∈ lwG := tm4 (List.mem_of_getElem? (i := 227) (by decide +kernel)) (by decide +kernel)
theorem se_yX11_offer : Cond.selects yX11_offer.cls yX11_offer yX11_offer ∈ lwG := tm4 (List.mem_of_getElem? (i := 228) (by decide +kernel)) (by decide +kernel)
theorem ml_L_51 : ML RL 51 yX11_offer cX11_offer 1 (some .int) 0 := ⟨tm4 (List.mem_of_getElem? (i := 226) (by decide +kernel)) (by decide +kernel), cw_yX11_offer, in_11, by decide, by decide +kernel, by decide +kernel⟩
theorem cw_yX11_answer : Cond.code yX11_answer cX11_answer 2 (some .int) ∈ lwG := tm5 (List.mem_of_getElem? (i := 1) (by decide +kernel)) (by decide +kernel)
theorem im_yX11_answer : Cond.instanceMethod yX11_answer ∈ lwG := tm4 (List.mem_of_getElem? (i := 239) (by decide +kernel)) (by decide +kernel)
theorem se_yX11_answer : Cond.selects yX11_answer.cls yX11_answer yX11_answer ∈ lwG := tm5 (List.mem_of_getElem? (i := 0) (by decide +kernel)) (by decide +kernel)
theorem ml_L_55 : ML RL 55 yX11_answer cX11_answer 2 (some .int) 1 := ⟨tm4 (List.mem_of_getElem? (i := 238) (by decide +kernel)) (by decide +kernel), cw_yX11_answer, in_11, by decide, by decide +kernel, by decide +kernel⟩
theorem cw_yX11_next : Cond.code yX11_next cX11_next 1 none ∈ lwG := tm5 (List.mem_of_getElem? (i := 14) (by decide +kernel)) (by decide +kernel)
theorem im_yX11_next : Cond.instanceMethod yX11_next ∈ lwG := tm5 (List.mem_of_getElem? (i := 12) (by decide +kernel)) (by decide +kernel)
theorem se_yX11_next : Cond.selects yX11_next.cls yX11_next yX11_next ∈ lwG := tm5 (List.mem_of_getElem? (i := 13) (by decide +kernel)) (by decide +kernel)
theorem ml_L_59 : ML RL 59 yX11_next cX11_next 1 none 0 := ⟨tm5 (List.mem_of_getElem? (i := 11) (by decide +kernel)) (by decide +kernel), cw_yX11_next, in_11, by decide, by decide +kernel, by decide +kernel⟩
theorem cw_yX11_match : Cond.code yX11_match cX11_match 2 (some .int) ∈ lwG := tm5 (List.mem_of_getElem? (i := 22) (by decide +kernel)) (by decide +kernel)
theorem im_yX11_match : Cond.instanceMethod yX11_match ∈ lwG := tm5 (List.mem_of_getElem? (i := 20) (by decide +kernel)) (by decide +kernel)
theorem se_yX11_match : Cond.selects yX11_match.cls yX11_match yX11_match ∈ lwG := tm5 (List.mem_of_getElem? (i := 21) (by decide +kernel)) (by decide +kernel)
theorem ml_L_62 : ML RL 62 yX11_match cX11_match 2 (some .int) 1 := ⟨tm5 (List.mem_of_getElem? (i := 19) (by decide +kernel)) (by decide +kernel), cw_yX11_match, in_11, by decide, by decide +kernel, by decide +kernel⟩
theorem cw_yX11_learn : Cond.code yX11_learn cX11_learn 1 (some .int) ∈ lwG := tm5 (List.mem_of_getElem? (i := 33) (by decide +kernel)) (by decide +kernel)
theorem im_yX11_learn : Cond.instanceMethod yX11_learn ∈ lwG := tm5 (List.mem_of_getElem? (i := 31) (by decide +kernel)) (by decide +kernel)
theorem se_yX11_learn : Cond.selects yX11_learn.cls yX11_learn yX11_learn ∈ lwG := tm5 (List.mem_of_getElem? (i := 32) (by decide +kernel)) (by decide +kernel)
theorem ml_L_65 : ML RL 65 yX11_learn cX11_learn 1 (some .int) 0 := ⟨tm5 (List.mem_of_getElem? (i := 30) (by decide +kernel)) (by decide +kernel), cw_yX11_learn, in_11, by decide, by decide +kernel, by decide +kernel⟩
theorem cw_yX11_rolls : Cond.code yX11_rolls cX11_rolls 2 (some .int) ∈ lwG := tm5 (List.mem_of_getElem? (i := 45) (by decide +kernel)) (by decide +kernel)
theorem im_yX11_rolls : Cond.instanceMethod yX11_rolls ∈ lwG := tm5 (List.mem_of_getElem? (i := 43) (by decide +kernel)) (by decide +kernel)
theorem se_yX11_rolls : Cond.selects yX11_rolls.cls yX11_rolls yX11_rolls ∈ lwG := tm5 (List.mem_of_getElem? (i := 44) (by decide +kernel)) (by decide +kernel)
theorem ml_L_68 : ML RL 68 yX11_rolls cX11_rolls 2 (some .int) 1 := ⟨tm5 (List.mem_of_getElem? (i := 42) (by decide +kernel)) (by decide +kernel), cw_yX11_rolls, in_11, by decide, by decide +kernel, by decide +kernel⟩
theorem cw_yX11_best : Cond.code yX11_best cX11_best 4 (some .int) ∈ lwG := tm5 (List.mem_of_getElem? (i := 186) (by decide +kernel)) (by decide +kernel)
theorem im_yX11_best : Cond.instanceMethod yX11_best ∈ lwG := tm5 (List.mem_of_getElem? (i := 184) (by decide +kernel)) (by decide +kernel)
theorem se_yX11_best : Cond.selects yX11_best.cls yX11_best yX11_best ∈ lwG := tm5 (List.mem_of_getElem? (i := 185) (by decide +kernel)) (by decide +kernel)
theorem ml_L_71 : ML RL 71 yX11_best cX11_best 4 (some .int) 3 := ⟨tm5 (List.mem_of_getElem? (i := 183) (by decide +kernel)) (by decide +kernel), cw_yX11_best, in_11, by decide, by decide +kernel, by decide +kernel⟩
theorem cw_yX11_within : Cond.code yX11_within cX11_within 3 (some .int) ∈ lwG := tm5 (List.mem_of_getElem? (i := 194) (by decide +kernel)) (by decide +kernel)
theorem im_yX11_within : Cond.instanceMethod yX11_within ∈ lwG := tm5 (List.mem_of_getElem? (i := 192) (by decide +kernel)) (by decide +kernel)
theorem se_yX11_within : Cond.selects yX11_within.cls yX11_within yX11_within ∈ lwG := tm5 (List.mem_of_getElem? (i := 193) (by decide +kernel)) (by decide +kernel)
theorem ml_L_74 : ML RL 74 yX11_within cX11_within 3 (some .int) 2 := ⟨tm5 (List.mem_of_getElem? (i := 191) (by decide +kernel)) (by decide +kernel), cw_yX11_within, in_11, by decide, by decide +kernel, by decide +kernel⟩
theorem cw_yX11_race : Cond.code yX11_race cX11_race 3 (some .int) ∈ lwG := tm5 (List.mem_of_getElem? (i := 205) (by decide +kernel)) (by decide +kernel)
theorem im_yX11_race : Cond.instanceMethod yX11_race ∈ lwG := tm5 (List.mem_of_getElem? (i := 203) (by decide +kernel)) (by decide +kernel)
theorem se_yX11_race : Cond.selects yX11_race.cls yX11_race yX11_race ∈ lwG := tm5 (List.mem_of_getElem? (i := 204) (by decide +kernel)) (by decide +kernel)
theorem ml_L_77 : ML RL 77 yX11_race cX11_race 3 (some .int) 2 := ⟨tm5 (List.mem_of_getElem? (i := 202) (by decide +kernel)) (by decide +kernel), cw_yX11_race, in_11, by decide, by decide +kernel, by decide +kernel⟩
theorem cl_L_13 : Cond.classLink RL 13 "java/lang/IllegalArgumentException" ∈ lwG := tm2 (List.mem_of_getElem? (i := 195) (by decide +kernel)) (by decide +kernel)
theorem cl_L_15 : Cond.classLink RL 15 "java/lang/IllegalStateException" ∈ lwG := tm2 (List.mem_of_getElem? (i := 196) (by decide +kernel)) (by decide +kernel)
theorem cl_L_21 : Cond.classLink RL 21 "java/lang/IndexOutOfBoundsException" ∈ lwG := tm3 (List.mem_of_getElem? (i := 139) (by decide +kernel)) (by decide +kernel)
theorem cl_L_33 : Cond.classLink RL 33 "java/util/NoSuchElementException" ∈ lwG := tm4 (List.mem_of_getElem? (i := 54) (by decide +kernel)) (by decide +kernel)
theorem cl_L_80 : Cond.classLink RL 80 "java/lang/UnsupportedOperationException" ∈ lwG := tm5 (List.mem_of_getElem? (i := 201) (by decide +kernel)) (by decide +kernel)
theorem dL_position_0 : decode cL_position 0 = .ok (.aload_n 2, 1) := by decide +kernel
theorem dL_position_1 : decode cL_position 1 = .ok (.iconst 0, 1) := by decide +kernel
theorem dL_position_2 : decode cL_position 2 = .ok (.aload_n 0, 1) := by decide +kernel
theorem dL_position_3 : decode cL_position 3 = .ok (.iload_n 1, 1) := by decide +kernel
theorem dL_position_4 : decode cL_position 4 = .ok (.invokevirtual 7, 3) := by decide +kernel
theorem dL_position_7 : decode cL_position 7 = .ok (.i2l, 1) := by decide +kernel
theorem dL_position_8 : decode cL_position 8 = .ok (.lastore, 1) := by decide +kernel
theorem dL_position_9 : decode cL_position 9 = .ok (.goto 9, 3) := by decide +kernel
theorem dL_position_12 : decode cL_position 12 = .ok (.astore_n 3, 1) := by decide +kernel
theorem dL_position_13 : decode cL_position 13 = .ok (.iconst 1, 1) := by decide +kernel
theorem dL_position_14 : decode cL_position 14 = .ok (.ireturn, 1) := by decide +kernel
theorem dL_position_15 : decode cL_position 15 = .ok (.astore_n 3, 1) := by decide +kernel
theorem dL_position_16 : decode cL_position 16 = .ok (.iconst 2, 1) := by decide +kernel
theorem dL_position_17 : decode cL_position 17 = .ok (.ireturn, 1) := by decide +kernel
theorem dL_position_18 : decode cL_position 18 = .ok (.iconst 0, 1) := by decide +kernel
theorem dL_position_19 : decode cL_position 19 = .ok (.ireturn, 1) := by decide +kernel
theorem dL_men_0 : decode cL_men 0 = .ok (.aload_n 3, 1) := by decide +kernel
theorem dL_men_1 : decode cL_men 1 = .ok (.iconst 0, 1) := by decide +kernel
theorem dL_men_2 : decode cL_men 2 = .ok (.aload_n 0, 1) := by decide +kernel
theorem dL_men_3 : decode cL_men 3 = .ok (.iload_n 1, 1) := by decide +kernel
theorem dL_men_4 : decode cL_men 4 = .ok (.iload_n 2, 1) := by decide +kernel
theorem dL_men_5 : decode cL_men 5 = .ok (.invokevirtual 17, 3) := by decide +kernel
theorem dL_men_8 : decode cL_men 8 = .ok (.i2l, 1) := by decide +kernel
theorem dL_men_9 : decode cL_men 9 = .ok (.lastore, 1) := by decide +kernel
theorem dL_men_10 : decode cL_men 10 = .ok (.goto 7, 3) := by decide +kernel
theorem dL_men_13 : decode cL_men 13 = .ok (.astore 4, 2) := by decide +kernel
theorem dL_men_15 : decode cL_men 15 = .ok (.iconst 1, 1) := by decide +kernel
theorem dL_men_16 : decode cL_men 16 = .ok (.ireturn, 1) := by decide +kernel
theorem dL_men_17 : decode cL_men 17 = .ok (.iconst 0, 1) := by decide +kernel
theorem dL_men_18 : decode cL_men 18 = .ok (.ireturn, 1) := by decide +kernel
theorem dL_ask_0 : decode cL_ask 0 = .ok (.aload_n 2, 1) := by decide +kernel
theorem dL_ask_1 : decode cL_ask 1 = .ok (.iconst 0, 1) := by decide +kernel
theorem dL_ask_2 : decode cL_ask 2 = .ok (.aload_n 0, 1) := by decide +kernel
theorem dL_ask_3 : decode cL_ask 3 = .ok (.iload_n 1, 1) := by decide +kernel
theorem dL_ask_4 : decode cL_ask 4 = .ok (.invokevirtual 23, 3) := by decide +kernel
theorem dL_ask_7 : decode cL_ask 7 = .ok (.i2l, 1) := by decide +kernel
theorem dL_ask_8 : decode cL_ask 8 = .ok (.lastore, 1) := by decide +kernel
theorem dL_ask_9 : decode cL_ask 9 = .ok (.goto 6, 3) := by decide +kernel
theorem dL_ask_12 : decode cL_ask 12 = .ok (.astore_n 3, 1) := by decide +kernel
theorem dL_ask_13 : decode cL_ask 13 = .ok (.iconst 1, 1) := by decide +kernel
theorem dL_ask_14 : decode cL_ask 14 = .ok (.ireturn, 1) := by decide +kernel
theorem dL_ask_15 : decode cL_ask 15 = .ok (.iconst 0, 1) := by decide +kernel
theorem dL_ask_16 : decode cL_ask 16 = .ok (.ireturn, 1) := by decide +kernel
theorem dL_plays_0 : decode cL_plays 0 = .ok (.aload_n 3, 1) := by decide +kernel
theorem dL_plays_1 : decode cL_plays 1 = .ok (.iconst 0, 1) := by decide +kernel
theorem dL_plays_2 : decode cL_plays 2 = .ok (.aload_n 0, 1) := by decide +kernel
theorem dL_plays_3 : decode cL_plays 3 = .ok (.iload_n 1, 1) := by decide +kernel
theorem dL_plays_4 : decode cL_plays 4 = .ok (.iload_n 2, 1) := by decide +kernel
theorem dL_plays_5 : decode cL_plays 5 = .ok (.invokevirtual 26, 3) := by decide +kernel
theorem dL_plays_8 : decode cL_plays 8 = .ok (.i2l, 1) := by decide +kernel
theorem dL_plays_9 : decode cL_plays 9 = .ok (.lastore, 1) := by decide +kernel
theorem dL_plays_10 : decode cL_plays 10 = .ok (.goto 11, 3) := by decide +kernel
theorem dL_plays_13 : decode cL_plays 13 = .ok (.astore 4, 2) := by decide +kernel
theorem dL_plays_15 : decode cL_plays 15 = .ok (.iconst 1, 1) := by decide +kernel
theorem dL_plays_16 : decode cL_plays 16 = .ok (.ireturn, 1) := by decide +kernel
theorem dL_plays_17 : decode cL_plays 17 = .ok (.astore 4, 2) := by decide +kernel
theorem dL_plays_19 : decode cL_plays 19 = .ok (.iconst 2, 1) := by decide +kernel
theorem dL_plays_20 : decode cL_plays 20 = .ok (.ireturn, 1) := by decide +kernel
theorem dL_plays_21 : decode cL_plays 21 = .ok (.iconst 0, 1) := by decide +kernel
theorem dL_plays_22 : decode cL_plays 22 = .ok (.ireturn, 1) := by decide +kernel
theorem dL_result_0 : decode cL_result 0 = .ok (.aload 4, 2) := by decide +kernel
theorem dL_result_2 : decode cL_result 2 = .ok (.iconst 0, 1) := by decide +kernel
theorem dL_result_3 : decode cL_result 3 = .ok (.aload_n 0, 1) := by decide +kernel
theorem dL_result_4 : decode cL_result 4 = .ok (.iload_n 1, 1) := by decide +kernel
theorem dL_result_5 : decode cL_result 5 = .ok (.iload_n 2, 1) := by decide +kernel
theorem dL_result_6 : decode cL_result 6 = .ok (.iload_n 3, 1) := by decide +kernel
theorem dL_result_7 : decode cL_result 7 = .ok (.invokevirtual 29, 3) := by decide +kernel
theorem dL_result_10 : decode cL_result 10 = .ok (.i2l, 1) := by decide +kernel
theorem dL_result_11 : decode cL_result 11 = .ok (.lastore, 1) := by decide +kernel
theorem dL_result_12 : decode cL_result 12 = .ok (.goto 11, 3) := by decide +kernel
theorem dL_result_15 : decode cL_result 15 = .ok (.astore 5, 2) := by decide +kernel
theorem dL_result_17 : decode cL_result 17 = .ok (.iconst 1, 1) := by decide +kernel
theorem dL_result_18 : decode cL_result 18 = .ok (.ireturn, 1) := by decide +kernel
theorem dL_result_19 : decode cL_result 19 = .ok (.astore 5, 2) := by decide +kernel
theorem dL_result_21 : decode cL_result 21 = .ok (.iconst 2, 1) := by decide +kernel
theorem dL_result_22 : decode cL_result 22 = .ok (.ireturn, 1) := by decide +kernel
theorem dL_result_23 : decode cL_result 23 = .ok (.iconst 0, 1) := by decide +kernel
theorem dL_result_24 : decode cL_result 24 = .ok (.ireturn, 1) := by decide +kernel
theorem dL_way_0 : decode cL_way 0 = .ok (.aload_n 3, 1) := by decide +kernel
theorem dL_way_1 : decode cL_way 1 = .ok (.iconst 0, 1) := by decide +kernel
theorem dL_way_2 : decode cL_way 2 = .ok (.aload_n 0, 1) := by decide +kernel
theorem dL_way_3 : decode cL_way 3 = .ok (.iload_n 1, 1) := by decide +kernel
theorem dL_way_4 : decode cL_way 4 = .ok (.iload_n 2, 1) := by decide +kernel
theorem dL_way_5 : decode cL_way 5 = .ok (.invokevirtual 35, 3) := by decide +kernel
theorem dL_way_8 : decode cL_way 8 = .ok (.i2l, 1) := by decide +kernel
theorem dL_way_9 : decode cL_way 9 = .ok (.lastore, 1) := by decide +kernel
theorem dL_way_10 : decode cL_way 10 = .ok (.goto 7, 3) := by decide +kernel
theorem dL_way_13 : decode cL_way 13 = .ok (.astore 4, 2) := by decide +kernel
theorem dL_way_15 : decode cL_way 15 = .ok (.iconst 1, 1) := by decide +kernel
theorem dL_way_16 : decode cL_way 16 = .ok (.ireturn, 1) := by decide +kernel
theorem dL_way_17 : decode cL_way 17 = .ok (.iconst 0, 1) := by decide +kernel
theorem dL_way_18 : decode cL_way 18 = .ok (.ireturn, 1) := by decide +kernel
theorem dL_choose_0 : decode cL_choose 0 = .ok (.aload_n 2, 1) := by decide +kernel
theorem dL_choose_1 : decode cL_choose 1 = .ok (.iconst 0, 1) := by decide +kernel
theorem dL_choose_2 : decode cL_choose 2 = .ok (.aload_n 0, 1) := by decide +kernel
theorem dL_choose_3 : decode cL_choose 3 = .ok (.iload_n 1, 1) := by decide +kernel
theorem dL_choose_4 : decode cL_choose 4 = .ok (.invokevirtual 38, 3) := by decide +kernel
theorem dL_choose_7 : decode cL_choose 7 = .ok (.i2l, 1) := by decide +kernel
theorem dL_choose_8 : decode cL_choose 8 = .ok (.lastore, 1) := by decide +kernel
theorem dL_choose_9 : decode cL_choose 9 = .ok (.goto 6, 3) := by decide +kernel
theorem dL_choose_12 : decode cL_choose 12 = .ok (.astore_n 3, 1) := by decide +kernel
theorem dL_choose_13 : decode cL_choose 13 = .ok (.iconst 1, 1) := by decide +kernel
theorem dL_choose_14 : decode cL_choose 14 = .ok (.ireturn, 1) := by decide +kernel
theorem dL_choose_15 : decode cL_choose 15 = .ok (.iconst 0, 1) := by decide +kernel
theorem dL_choose_16 : decode cL_choose 16 = .ok (.ireturn, 1) := by decide +kernel
theorem dL_say_0 : decode cL_say 0 = .ok (.aload 4, 2) := by decide +kernel
theorem dL_say_2 : decode cL_say 2 = .ok (.iconst 0, 1) := by decide +kernel
theorem dL_say_3 : decode cL_say 3 = .ok (.aload_n 0, 1) := by decide +kernel
theorem dL_say_4 : decode cL_say 4 = .ok (.iload_n 1, 1) := by decide +kernel
theorem dL_say_5 : decode cL_say 5 = .ok (.iload_n 2, 1) := by decide +kernel
theorem dL_say_6 : decode cL_say 6 = .ok (.iload_n 3, 1) := by decide +kernel
theorem dL_say_7 : decode cL_say 7 = .ok (.invokevirtual 41, 3) := by decide +kernel
theorem dL_say_10 : decode cL_say 10 = .ok (.i2l, 1) := by decide +kernel
theorem dL_say_11 : decode cL_say 11 = .ok (.lastore, 1) := by decide +kernel
theorem dL_say_12 : decode cL_say 12 = .ok (.goto 11, 3) := by decide +kernel
theorem dL_say_15 : decode cL_say 15 = .ok (.astore 5, 2) := by decide +kernel
theorem dL_say_17 : decode cL_say 17 = .ok (.iconst 1, 1) := by decide +kernel
theorem dL_say_18 : decode cL_say 18 = .ok (.ireturn, 1) := by decide +kernel
theorem dL_say_19 : decode cL_say 19 = .ok (.astore 5, 2) := by decide +kernel
theorem dL_say_21 : decode cL_say 21 = .ok (.iconst 2, 1) := by decide +kernel
theorem dL_say_22 : decode cL_say 22 = .ok (.ireturn, 1) := by decide +kernel
theorem dL_say_23 : decode cL_say 23 = .ok (.iconst 0, 1) := by decide +kernel
theorem dL_say_24 : decode cL_say 24 = .ok (.ireturn, 1) := by decide +kernel
theorem dL_begin_0 : decode cL_begin 0 = .ok (.aload_n 0, 1) := by decide +kernel
theorem dL_begin_1 : decode cL_begin 1 = .ok (.iload_n 1, 1) := by decide +kernel
theorem dL_begin_2 : decode cL_begin 2 = .ok (.invokevirtual 44, 3) := by decide +kernel
theorem dL_begin_5 : decode cL_begin 5 = .ok (.goto 6, 3) := by decide +kernel
theorem dL_begin_8 : decode cL_begin 8 = .ok (.astore_n 2, 1) := by decide +kernel
theorem dL_begin_9 : decode cL_begin 9 = .ok (.iconst 1, 1) := by decide +kernel
theorem dL_begin_10 : decode cL_begin 10 = .ok (.ireturn, 1) := by decide +kernel
theorem dL_begin_11 : decode cL_begin 11 = .ok (.iconst 0, 1) := by decide +kernel
theorem dL_begin_12 : decode cL_begin 12 = .ok (.ireturn, 1) := by decide +kernel
theorem dL_roll_0 : decode cL_roll 0 = .ok (.aload_n 3, 1) := by decide +kernel
theorem dL_roll_1 : decode cL_roll 1 = .ok (.iconst 0, 1) := by decide +kernel
theorem dL_roll_2 : decode cL_roll 2 = .ok (.aload_n 0, 1) := by decide +kernel
theorem dL_roll_3 : decode cL_roll 3 = .ok (.iload_n 1, 1) := by decide +kernel
theorem dL_roll_4 : decode cL_roll 4 = .ok (.iload_n 2, 1) := by decide +kernel
theorem dL_roll_5 : decode cL_roll 5 = .ok (.invokevirtual 48, 3) := by decide +kernel
theorem dL_roll_8 : decode cL_roll 8 = .ok (.i2l, 1) := by decide +kernel
theorem dL_roll_9 : decode cL_roll 9 = .ok (.lastore, 1) := by decide +kernel
theorem dL_roll_10 : decode cL_roll 10 = .ok (.goto 11, 3) := by decide +kernel
theorem dL_roll_13 : decode cL_roll 13 = .ok (.astore 4, 2) := by decide +kernel
theorem dL_roll_15 : decode cL_roll 15 = .ok (.iconst 1, 1) := by decide +kernel
theorem dL_roll_16 : decode cL_roll 16 = .ok (.ireturn, 1) := by decide +kernel
theorem dL_roll_17 : decode cL_roll 17 = .ok (.astore 4, 2) := by decide +kernel
theorem dL_roll_19 : decode cL_roll 19 = .ok (.iconst 2, 1) := by decide +kernel
theorem dL_roll_20 : decode cL_roll 20 = .ok (.ireturn, 1) := by decide +kernel
theorem dL_roll_21 : decode cL_roll 21 = .ok (.iconst 0, 1) := by decide +kernel
theorem dL_roll_22 : decode cL_roll 22 = .ok (.ireturn, 1) := by decide +kernel
theorem dL_offer_0 : decode cL_offer 0 = .ok (.aload_n 1, 1) := by decide +kernel
theorem dL_offer_1 : decode cL_offer 1 = .ok (.iconst 0, 1) := by decide +kernel
theorem dL_offer_2 : decode cL_offer 2 = .ok (.aload_n 0, 1) := by decide +kernel
theorem dL_offer_3 : decode cL_offer 3 = .ok (.invokevirtual 51, 3) := by decide +kernel
theorem dL_offer_6 : decode cL_offer 6 = .ok (.i2l, 1) := by decide +kernel
theorem dL_offer_7 : decode cL_offer 7 = .ok (.lastore, 1) := by decide +kernel
theorem dL_offer_8 : decode cL_offer 8 = .ok (.goto 6, 3) := by decide +kernel
theorem dL_offer_11 : decode cL_offer 11 = .ok (.astore_n 2, 1) := by decide +kernel
theorem dL_offer_12 : decode cL_offer 12 = .ok (.iconst 1, 1) := by decide +kernel
theorem dL_offer_13 : decode cL_offer 13 = .ok (.ireturn, 1) := by decide +kernel
theorem dL_offer_14 : decode cL_offer 14 = .ok (.iconst 0, 1) := by decide +kernel
theorem dL_offer_15 : decode cL_offer 15 = .ok (.ireturn, 1) := by decide +kernel
theorem dL_answer_0 : decode cL_answer 0 = .ok (.aload_n 2, 1) := by decide +kernel
theorem dL_answer_1 : decode cL_answer 1 = .ok (.iconst 0, 1) := by decide +kernel
theorem dL_answer_2 : decode cL_answer 2 = .ok (.aload_n 0, 1) := by decide +kernel
theorem dL_answer_3 : decode cL_answer 3 = .ok (.iload_n 1, 1) := by decide +kernel
theorem dL_answer_4 : decode cL_answer 4 = .ok (.invokevirtual 55, 3) := by decide +kernel
theorem dL_answer_7 : decode cL_answer 7 = .ok (.i2l, 1) := by decide +kernel
theorem dL_answer_8 : decode cL_answer 8 = .ok (.lastore, 1) := by decide +kernel
theorem dL_answer_9 : decode cL_answer 9 = .ok (.goto 6, 3) := by decide +kernel
theorem dL_answer_12 : decode cL_answer 12 = .ok (.astore_n 3, 1) := by decide +kernel
theorem dL_answer_13 : decode cL_answer 13 = .ok (.iconst 1, 1) := by decide +kernel
theorem dL_answer_14 : decode cL_answer 14 = .ok (.ireturn, 1) := by decide +kernel
theorem dL_answer_15 : decode cL_answer 15 = .ok (.iconst 0, 1) := by decide +kernel
theorem dL_answer_16 : decode cL_answer 16 = .ok (.ireturn, 1) := by decide +kernel
theorem dL_next_0 : decode cL_next 0 = .ok (.aload_n 0, 1) := by decide +kernel
theorem dL_next_1 : decode cL_next 1 = .ok (.invokevirtual 59, 3) := by decide +kernel
theorem dL_next_4 : decode cL_next 4 = .ok (.goto 6, 3) := by decide +kernel
theorem dL_next_7 : decode cL_next 7 = .ok (.astore_n 1, 1) := by decide +kernel
theorem dL_next_8 : decode cL_next 8 = .ok (.iconst 1, 1) := by decide +kernel
theorem dL_next_9 : decode cL_next 9 = .ok (.ireturn, 1) := by decide +kernel
theorem dL_next_10 : decode cL_next 10 = .ok (.iconst 0, 1) := by decide +kernel
theorem dL_next_11 : decode cL_next 11 = .ok (.ireturn, 1) := by decide +kernel
theorem dL_match_0 : decode cL_match 0 = .ok (.aload_n 2, 1) := by decide +kernel
theorem dL_match_1 : decode cL_match 1 = .ok (.iconst 0, 1) := by decide +kernel
theorem dL_match_2 : decode cL_match 2 = .ok (.aload_n 0, 1) := by decide +kernel
theorem dL_match_3 : decode cL_match 3 = .ok (.iload_n 1, 1) := by decide +kernel
theorem dL_match_4 : decode cL_match 4 = .ok (.invokevirtual 62, 3) := by decide +kernel
theorem dL_match_7 : decode cL_match 7 = .ok (.i2l, 1) := by decide +kernel
theorem dL_match_8 : decode cL_match 8 = .ok (.lastore, 1) := by decide +kernel
theorem dL_match_9 : decode cL_match 9 = .ok (.goto 6, 3) := by decide +kernel
theorem dL_match_12 : decode cL_match 12 = .ok (.astore_n 3, 1) := by decide +kernel
theorem dL_match_13 : decode cL_match 13 = .ok (.iconst 1, 1) := by decide +kernel
theorem dL_match_14 : decode cL_match 14 = .ok (.ireturn, 1) := by decide +kernel
theorem dL_match_15 : decode cL_match 15 = .ok (.iconst 0, 1) := by decide +kernel
theorem dL_match_16 : decode cL_match 16 = .ok (.ireturn, 1) := by decide +kernel
theorem dL_learn_0 : decode cL_learn 0 = .ok (.aload_n 1, 1) := by decide +kernel
theorem dL_learn_1 : decode cL_learn 1 = .ok (.iconst 0, 1) := by decide +kernel
theorem dL_learn_2 : decode cL_learn 2 = .ok (.aload_n 0, 1) := by decide +kernel
theorem dL_learn_3 : decode cL_learn 3 = .ok (.invokevirtual 65, 3) := by decide +kernel
theorem dL_learn_6 : decode cL_learn 6 = .ok (.i2l, 1) := by decide +kernel
theorem dL_learn_7 : decode cL_learn 7 = .ok (.lastore, 1) := by decide +kernel
theorem dL_learn_8 : decode cL_learn 8 = .ok (.goto 6, 3) := by decide +kernel
theorem dL_learn_11 : decode cL_learn 11 = .ok (.astore_n 2, 1) := by decide +kernel
theorem dL_learn_12 : decode cL_learn 12 = .ok (.iconst 1, 1) := by decide +kernel
theorem dL_learn_13 : decode cL_learn 13 = .ok (.ireturn, 1) := by decide +kernel
theorem dL_learn_14 : decode cL_learn 14 = .ok (.iconst 0, 1) := by decide +kernel
theorem dL_learn_15 : decode cL_learn 15 = .ok (.ireturn, 1) := by decide +kernel
theorem dL_rolls_0 : decode cL_rolls 0 = .ok (.aload_n 2, 1) := by decide +kernel
theorem dL_rolls_1 : decode cL_rolls 1 = .ok (.iconst 0, 1) := by decide +kernel
theorem dL_rolls_2 : decode cL_rolls 2 = .ok (.aload_n 0, 1) := by decide +kernel
theorem dL_rolls_3 : decode cL_rolls 3 = .ok (.iload_n 1, 1) := by decide +kernel
theorem dL_rolls_4 : decode cL_rolls 4 = .ok (.invokevirtual 68, 3) := by decide +kernel
theorem dL_rolls_7 : decode cL_rolls 7 = .ok (.i2l, 1) := by decide +kernel
theorem dL_rolls_8 : decode cL_rolls 8 = .ok (.lastore, 1) := by decide +kernel
theorem dL_rolls_9 : decode cL_rolls 9 = .ok (.goto 9, 3) := by decide +kernel
theorem dL_rolls_12 : decode cL_rolls 12 = .ok (.astore_n 3, 1) := by decide +kernel
theorem dL_rolls_13 : decode cL_rolls 13 = .ok (.iconst 1, 1) := by decide +kernel
theorem dL_rolls_14 : decode cL_rolls 14 = .ok (.ireturn, 1) := by decide +kernel
theorem dL_rolls_15 : decode cL_rolls 15 = .ok (.astore_n 3, 1) := by decide +kernel
theorem dL_rolls_16 : decode cL_rolls 16 = .ok (.iconst 2, 1) := by decide +kernel
theorem dL_rolls_17 : decode cL_rolls 17 = .ok (.ireturn, 1) := by decide +kernel
theorem dL_rolls_18 : decode cL_rolls 18 = .ok (.iconst 0, 1) := by decide +kernel
theorem dL_rolls_19 : decode cL_rolls 19 = .ok (.ireturn, 1) := by decide +kernel
theorem dL_best_0 : decode cL_best 0 = .ok (.aload 4, 2) := by decide +kernel
theorem dL_best_2 : decode cL_best 2 = .ok (.iconst 0, 1) := by decide +kernel
theorem dL_best_3 : decode cL_best 3 = .ok (.aload_n 0, 1) := by decide +kernel
theorem dL_best_4 : decode cL_best 4 = .ok (.iload_n 1, 1) := by decide +kernel
theorem dL_best_5 : decode cL_best 5 = .ok (.iload_n 2, 1) := by decide +kernel
theorem dL_best_6 : decode cL_best 6 = .ok (.iload_n 3, 1) := by decide +kernel
theorem dL_best_7 : decode cL_best 7 = .ok (.invokevirtual 71, 3) := by decide +kernel
theorem dL_best_10 : decode cL_best 10 = .ok (.i2l, 1) := by decide +kernel
theorem dL_best_11 : decode cL_best 11 = .ok (.lastore, 1) := by decide +kernel
theorem dL_best_12 : decode cL_best 12 = .ok (.goto 11, 3) := by decide +kernel
theorem dL_best_15 : decode cL_best 15 = .ok (.astore 5, 2) := by decide +kernel
theorem dL_best_17 : decode cL_best 17 = .ok (.iconst 1, 1) := by decide +kernel
theorem dL_best_18 : decode cL_best 18 = .ok (.ireturn, 1) := by decide +kernel
theorem dL_best_19 : decode cL_best 19 = .ok (.astore 5, 2) := by decide +kernel
theorem dL_best_21 : decode cL_best 21 = .ok (.iconst 2, 1) := by decide +kernel
theorem dL_best_22 : decode cL_best 22 = .ok (.ireturn, 1) := by decide +kernel
theorem dL_best_23 : decode cL_best 23 = .ok (.iconst 0, 1) := by decide +kernel
theorem dL_best_24 : decode cL_best 24 = .ok (.ireturn, 1) := by decide +kernel
theorem dL_within_0 : decode cL_within 0 = .ok (.aload_n 3, 1) := by decide +kernel
theorem dL_within_1 : decode cL_within 1 = .ok (.iconst 0, 1) := by decide +kernel
theorem dL_within_2 : decode cL_within 2 = .ok (.aload_n 0, 1) := by decide +kernel
theorem dL_within_3 : decode cL_within 3 = .ok (.iload_n 1, 1) := by decide +kernel
theorem dL_within_4 : decode cL_within 4 = .ok (.iload_n 2, 1) := by decide +kernel
theorem dL_within_5 : decode cL_within 5 = .ok (.invokevirtual 74, 3) := by decide +kernel
theorem dL_within_8 : decode cL_within 8 = .ok (.i2l, 1) := by decide +kernel
theorem dL_within_9 : decode cL_within 9 = .ok (.lastore, 1) := by decide +kernel
theorem dL_within_10 : decode cL_within 10 = .ok (.goto 11, 3) := by decide +kernel
theorem dL_within_13 : decode cL_within 13 = .ok (.astore 4, 2) := by decide +kernel
theorem dL_within_15 : decode cL_within 15 = .ok (.iconst 1, 1) := by decide +kernel
theorem dL_within_16 : decode cL_within 16 = .ok (.ireturn, 1) := by decide +kernel
theorem dL_within_17 : decode cL_within 17 = .ok (.astore 4, 2) := by decide +kernel
theorem dL_within_19 : decode cL_within 19 = .ok (.iconst 2, 1) := by decide +kernel
theorem dL_within_20 : decode cL_within 20 = .ok (.ireturn, 1) := by decide +kernel
theorem dL_within_21 : decode cL_within 21 = .ok (.iconst 0, 1) := by decide +kernel
theorem dL_within_22 : decode cL_within 22 = .ok (.ireturn, 1) := by decide +kernel
theorem dL_race_0 : decode cL_race 0 = .ok (.aload_n 3, 1) := by decide +kernel
theorem dL_race_1 : decode cL_race 1 = .ok (.iconst 0, 1) := by decide +kernel
theorem dL_race_2 : decode cL_race 2 = .ok (.aload_n 0, 1) := by decide +kernel
theorem dL_race_3 : decode cL_race 3 = .ok (.iload_n 1, 1) := by decide +kernel
theorem dL_race_4 : decode cL_race 4 = .ok (.iload_n 2, 1) := by decide +kernel
theorem dL_race_5 : decode cL_race 5 = .ok (.invokevirtual 77, 3) := by decide +kernel
theorem dL_race_8 : decode cL_race 8 = .ok (.i2l, 1) := by decide +kernel
theorem dL_race_9 : decode cL_race 9 = .ok (.lastore, 1) := by decide +kernel
theorem dL_race_10 : decode cL_race 10 = .ok (.goto 15, 3) := by decide +kernel
theorem dL_race_13 : decode cL_race 13 = .ok (.astore 4, 2) := by decide +kernel
theorem dL_race_15 : decode cL_race 15 = .ok (.iconst 1, 1) := by decide +kernel
theorem dL_race_16 : decode cL_race 16 = .ok (.ireturn, 1) := by decide +kernel
theorem dL_race_17 : decode cL_race 17 = .ok (.astore 4, 2) := by decide +kernel
theorem dL_race_19 : decode cL_race 19 = .ok (.iconst 2, 1) := by decide +kernel
theorem dL_race_20 : decode cL_race 20 = .ok (.ireturn, 1) := by decide +kernel
theorem dL_race_21 : decode cL_race 21 = .ok (.astore 4, 2) := by decide +kernel
theorem dL_race_23 : decode cL_race 23 = .ok (.iconst 3, 1) := by decide +kernel
theorem dL_race_24 : decode cL_race 24 = .ok (.ireturn, 1) := by decide +kernel
theorem dL_race_25 : decode cL_race 25 = .ok (.iconst 0, 1) := by decide +kernel
theorem dL_race_26 : decode cL_race 26 = .ok (.ireturn, 1) := by decide +kernel