/-! the words of the throws -/
theorem lw_ax {ws : List Cond} (ps : List Nat) (hp : ws.filter goodWord = ps.filterMap (fun i => lw_tbl[i]?)) (h2 : (ws.filter (fun w => !goodWord w)).all (fun w => decide (w ∈ exL)) = true) (h3 : ws.all vx_ot = true) : ∀ w ∈ ws, (w ∈ lwG ∨ w ∈ exL) ∧ vx_ot w = true := fun w hw => by
  refine ⟨?_, List.all_eq_true.mp h3 w hw⟩
  by_cases g : goodWord w = true
  · left
    have hf : w ∈ ws.filter goodWord := List.mem_filter.mpr ⟨hw, g⟩
    rw [hp] at hf
    obtain ⟨i, -, hi⟩ := List.mem_filterMap.mp hf
    exact lwG_in (List.mem_of_getElem? hi) g
  · right
    have hf : w ∈ ws.filter (fun w => !goodWord w) := List.mem_filter.mpr ⟨hw, by simp [g]⟩
    have := List.all_eq_true.mp h2 w hf
    exact of_decide_eq_true this
theorem lw_at {ws : List Cond} (ps : List Nat) (hp : ws = ps.filterMap (fun i => lw_tbl[i]?)) (h : ws.all goodWord = true) : ∀ w ∈ ws, w ∈ lwG := fun w hw => by
  have h1 := List.all_eq_true.mp h w hw
  rw [hp] at hw
  obtain ⟨i, -, hi⟩ := List.mem_filterMap.mp hw
  exact lwG_in (List.mem_of_getElem? hi) h1
theorem ta_153 : ∀ w ∈ vx_atS RX11 153 "java/lang/IllegalArgumentException" xnL, (w ∈ lwG ∨ w ∈ exL) ∧ vx_ot w = true := lw_ax [99, 552, 561, 567, 570, 572, 553, 554, 116, 117, 555, 560, 568, 588, 542, 589, 544, 590, 546, 556, 558, 548, 584, 585, 587, 548, 575, 576, 577, 578, 578, 579, 580, 581, 581, 582, 583, 584, 574, 531, 539, 540, 541, 543, 545, 547, 551, 550, 549] (by decide +kernel) (by decide +kernel) (by decide +kernel)
theorem tk_153 : Cond.classLink RX11 149 "java/lang/IllegalArgumentException" ∈ lwG := tm2 (List.mem_of_getElem? (i := 205) (by decide +kernel)) (by decide +kernel)
theorem ti_153 : Cond.initialized "java/lang/IllegalArgumentException" ∈ lwG := tm1 (List.mem_of_getElem? (i := 17) (by decide +kernel)) (by decide +kernel)
theorem TW.m153 {is : Nat} {text : String} (h : (is, text) ∈ sxL) : TW 149 is 153 "java/lang/IllegalArgumentException" text := ⟨by decide +kernel, tk_153, ti_153, h, ta_153⟩
theorem ta_103 : ∀ w ∈ vx_atS RX11 103 "java/lang/IllegalStateException" xnL, (w ∈ lwG ∨ w ∈ exL) ∧ vx_ot w = true := lw_ax [99, 552, 561, 567, 570, 572, 553, 554, 116, 117, 555, 560, 568, 588, 542, 589, 544, 590, 546, 556, 558, 548, 584, 585, 587, 548, 611, 612, 613, 578, 578, 579, 580, 581, 581, 582, 583, 584, 610, 601, 603, 563, 604, 605, 606, 607, 551, 550, 608] (by decide +kernel) (by decide +kernel) (by decide +kernel)
theorem tk_103 : Cond.classLink RX11 99 "java/lang/IllegalStateException" ∈ lwG := tm3 (List.mem_of_getElem? (i := 35) (by decide +kernel)) (by decide +kernel)
theorem ti_103 : Cond.initialized "java/lang/IllegalStateException" ∈ lwG := tm1 (List.mem_of_getElem? (i := 18) (by decide +kernel)) (by decide +kernel)
theorem TW.m103 {is : Nat} {text : String} (h : (is, text) ∈ sxL) : TW 99 is 103 "java/lang/IllegalStateException" text := ⟨by decide +kernel, tk_103, ti_103, h, ta_103⟩
theorem ta_317 : ∀ w ∈ vx_atS RX11 317 "java/lang/IndexOutOfBoundsException" xnL, (w ∈ lwG ∨ w ∈ exL) ∧ vx_ot w = true := lw_ax [99, 552, 561, 567, 570, 572, 553, 554, 116, 117, 555, 560, 568, 588, 542, 589, 544, 590, 546, 556, 558, 548, 584, 585, 587, 548, 723, 724, 725, 578, 578, 579, 580, 581, 581, 582, 583, 584, 722, 713, 715, 564, 716, 717, 718, 719, 551, 550, 720] (by decide +kernel) (by decide +kernel) (by decide +kernel)
theorem tk_317 : Cond.classLink RX11 313 "java/lang/IndexOutOfBoundsException" ∈ lwG := tm3 (List.mem_of_getElem? (i := 147) (by decide +kernel)) (by decide +kernel)
theorem ti_317 : Cond.initialized "java/lang/IndexOutOfBoundsException" ∈ lwG := tm1 (List.mem_of_getElem? (i := 21) (by decide +kernel)) (by decide +kernel)
theorem TW.m317 {is : Nat} {text : String} (h : (is, text) ∈ sxL) : TW 313 is 317 "java/lang/IndexOutOfBoundsException" text := ⟨by decide +kernel, tk_317, ti_317, h, ta_317⟩
theorem ta_287 : ∀ w ∈ vx_atS RX11 287 "java/lang/UnsupportedOperationException" xnL, (w ∈ lwG ∨ w ∈ exL) ∧ vx_ot w = true := lw_ax [99, 552, 561, 567, 570, 572, 553, 554, 116, 117, 555, 560, 568, 588, 542, 589, 544, 590, 546, 556, 558, 548, 584, 585, 587, 548, 1267, 1268, 1269, 578, 578, 579, 580, 581, 581, 582, 583, 584, 1266, 1257, 1259, 565, 1260, 1261, 1262, 1263, 551, 550, 1264] (by decide +kernel) (by decide +kernel) (by decide +kernel)
theorem tk_287 : Cond.classLink RX11 283 "java/lang/UnsupportedOperationException" ∈ lwG := tm5 (List.mem_of_getElem? (i := 211) (by decide +kernel)) (by decide +kernel)
theorem ti_287 : Cond.initialized "java/lang/UnsupportedOperationException" ∈ lwG := tm1 (List.mem_of_getElem? (i := 24) (by decide +kernel)) (by decide +kernel)
theorem TW.m287 {is : Nat} {text : String} (h : (is, text) ∈ sxL) : TW 283 is 287 "java/lang/UnsupportedOperationException" text := ⟨by decide +kernel, tk_287, ti_287, h, ta_287⟩
