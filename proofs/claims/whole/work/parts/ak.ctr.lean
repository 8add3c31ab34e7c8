/-! CONSTRUCTORS -/
theorem nap {pl : List Nat} {p q : Nat} (h : p ∉ pl) (e : p ≠ q) : p ∉ pl ++ [q] := fun z => by
  rcases List.mem_append.mp z with z | z
  · exact h z
  · exact e (List.mem_singleton.mp z)
theorem mL {pl : List Nat} {p q : Nat} (h : p ∈ pl) : p ∈ pl ++ [q] := List.mem_append_left _ h
theorem mR {pl : List Nat} {q : Nat} : q ∈ pl ++ [q] := List.mem_append_right _ (List.mem_singleton.mpr rfl)
theorem up1_i0 {α : Type} {f : Nat → Nat → α} {p : Nat} {r : Nat → α} (h : f p = r) : up1 f p r = f := by
  funext q
  by_cases c : q = p
  · subst c; rw [up1_s, h]
  · rw [up1_p c]
def putsP (P : Nat → Nat → Option Nat) (p : Nat) (L : List (Nat × Nat)) : Nat → Nat → Option Nat := L.foldl (fun P x => up2 P p x.1 (some x.2)) (up1 P p (fun _ => none))
theorem puts_n {P : Nat → Nat → Option Nat} {p q : Nat} (h : q ≠ p) : ∀ (L : List (Nat × Nat)) (Q : Nat → Nat → Option Nat), Q q = P q → (L.foldl (fun P x => up2 P p x.1 (some x.2)) Q) q = P q
  | [], Q, e => e
  | x :: L, Q, e => puts_n h L (up2 Q p x.1 (some x.2)) (by rw [up2_r h]; exact e)
def lkL : List (Nat × Nat) → (Nat → Option Nat) → Nat → Option Nat
  | [], f => f
  | x :: L, f => lkL L (va_up f x.1 (some x.2))
theorem puts_s {p : Nat} : ∀ (L : List (Nat × Nat)) (Q : Nat → Nat → Option Nat), (L.foldl (fun P x => up2 P p x.1 (some x.2)) Q) p = lkL L (Q p)
  | [], Q => rfl
  | x :: L, Q => by
    show (L.foldl (fun P x => up2 P p x.1 (some x.2)) (up2 Q p x.1 (some x.2))) p = lkL L (va_up (Q p) x.1 (some x.2))
    rw [puts_s L]
    congr 1
    simp [up2]
theorem puts_fin {P : Nat → Nat → Option Nat} {p : Nat} {L : List (Nat × Nat)} (h : P p = lkL L (fun _ => none)) : putsP P p L = P := by
  funext q
  unfold putsP
  by_cases c : q = p
  · subst c; rw [puts_s, up1_s, h]
  · exact puts_n c L _ (up1_p c)
set_option maxRecDepth 10000 in
theorem c_1_init (l : Launch) {P O : Nat → Nat → Option Nat} (I A : Nat → Nat → Int32) (J : Nat → Nat → Int64) {pl : List Nat} (p : Nat) (hk_p : kC p = 1) (hp_p : p ∈ pl) (hn : p + 1 ∉ pl) (hC : clC P O pl) : Con l 1 yX1_init cX1_init 1 none [.ref p] (mC P O I A J) pl 1 400 (fun r σ' pl' => r = none ∧ σ' = mC (up2 P p 0 (some (p + 1))) O I (up1 A (p + 1) (fun _ => 0)) J ∧ pl' = pl ++ [p + 1]) := by
  refine Con.of (by decide) (Nat.le_of_ble_eq_true rfl) (fun X hX9 hn9 F E => ?_)
  have hno : noR (mC P O I A J) pl (p + 1) := hC.no hn
  refine a_aload_n F 0 dX1_init_0 rfl rfl ?_
  refine a_objI F oi_1 oi_i oi_c (by decide) dX1_init_1 (by decide) ?_
  refine a_aload_n F 0 dX1_init_4 rfl rfl ?_
  refine a_sipush (v := 400) F dX1_init_5 (by decide) ?_
  refine a_newi (p := p + 1) F (k_by hk_p).1 hno ac_int (by decide) (by show _ = nC (p + 1); rw [(k_by hk_p).2]; rfl) (by show nC (p + 1) * 4 ≤ _; rw [(k_by hk_p).2]; decide) dX1_init_8 (Nat.le_refl 1) (by show 0 + nC (p + 1) ≤ 400; rw [(k_by hk_p).2]; decide) (hl_r hp_p hl_nil) (hs_r hp_p hs_nil) ?_
  refine a_putF F hn9 fl_1_9 rfl rfl rfl (fun _ => rfl) (fun _ => rfl) (List.mem_append_left _ hp_p) hk_p dX1_init_10 ?_
  exact a_vret F E dX1_init_13 (Nat.le_refl 1) (by show 0 + nC (p + 1) ≤ 400; rw [(k_by hk_p).2]; decide) ⟨rfl, rfl, rfl⟩

set_option maxRecDepth 10000 in
theorem c_10_init (l : Launch) {P O : Nat → Nat → Option Nat} (I A : Nat → Nat → Int32) (J : Nat → Nat → Int64) {pl : List Nat} (p : Nat) (hk_p : kC p = 10) (hp_p : p ∈ pl) (hn : p + 1 ∉ pl) (hC : clC P O pl) : Con l 1 yX10_init cX10_init 1 none [.ref p] (mC P O I A J) pl 1 6 (fun r σ' pl' => r = none ∧ σ' = mC (up2 P p 0 (some (p + 1))) O I A (up1 J (p + 1) (fun _ => 0)) ∧ pl' = pl ++ [p + 1]) := by
  refine Con.of (by decide) (Nat.le_of_ble_eq_true rfl) (fun X hX9 hn9 F E => ?_)
  have hno : noR (mC P O I A J) pl (p + 1) := hC.no hn
  refine a_aload_n F 0 dX10_init_0 rfl rfl ?_
  refine a_objI F oi_10 oi_i oi_c (by decide) dX10_init_1 (by decide) ?_
  refine a_aload_n F 0 dX10_init_4 rfl rfl ?_
  refine a_bipush (v := 6) F dX10_init_5 (by decide) ?_
  refine a_newl (p := p + 1) F (k_wh hk_p).1 hno ac_long (by decide) (by show _ = nC (p + 1); rw [(k_wh hk_p).2]; rfl) (by show nC (p + 1) * 8 ≤ _; rw [(k_wh hk_p).2]; decide) dX10_init_7 (Nat.le_refl 1) (by show 0 + nC (p + 1) ≤ 6; rw [(k_wh hk_p).2]; decide) (hl_r hp_p hl_nil) (hs_r hp_p hs_nil) ?_
  refine a_putF F hn9 fl_10_9 rfl rfl rfl (fun _ => rfl) (fun _ => rfl) (List.mem_append_left _ hp_p) hk_p dX10_init_9 ?_
  exact a_vret F E dX10_init_12 (Nat.le_refl 1) (by show 0 + nC (p + 1) ≤ 6; rw [(k_wh hk_p).2]; decide) ⟨rfl, rfl, rfl⟩

section
variable {X : Ctx} {cc : ByteArray} {own : String} {nL d mc ms : Nat} {pl : List Nat} {k1 k2 pc : Nat} {ls : List (Nat × Value)} {st : List Value} {P O : Nat → Nat → Option Nat} {I A : Nat → Nat → Int32} {J : Nat → Nat → Int64}
theorem a_newBy (F : Fx X cc own nL d mc ms) (S : SX X) {i1 i2 p : Nat} (hk : kC p = 1) (h0 : p ∉ pl) (h1 : p + 1 ∉ pl) (hC : clC P O pl) (hPp : P p = fun k => if k = 0 then some (p + 1) else none) (hcl : Cond.classLink own i1 (RR 1) ∈ lwG) (L : MN own i2 yX1_init cX1_init 1 none 0) (hd0 : decode cc pc = .ok (.new i1, 3)) (hd3 : decode cc (pc + 3) = .ok (.dup, 1)) (hd4 : decode cc (pc + 4) = .ok (.invokespecial i2, 3)) (hdd : 1 < d) (hc : k1 + 2 ≤ mc) (hs : k2 + 402 ≤ ms)
    (hls : ∀ x ∈ ls, ∀ p, x.2 = .ref p → p ∈ pl) (hst : ∀ v ∈ st, ∀ p, v = .ref p → p ∈ pl) (hcat : (st.map fun v => v.category).sum ≤ 7)
    (kk : WA X (mC P O (up1 I p (fun _ => 0)) (up1 A (p + 1) (fun _ => 0)) J) (pl ++ [p] ++ [p + 1]) (k1 + 2) (k2 + 402) (pc + 7) ls (.ref p :: st)) : WA X (mC P O I A J) pl k1 k2 pc ls st := by
  refine a_new (ci := 1) (p := p) F (by decide) hk (hC.no h0) uw1 hcl it_1 ii_1 hd0 (by omega) (by show k2 + 2 ≤ ms; omega) hls hst ?_
  refine a_dup F hd3 rfl ?_
  have hp : p ∈ pl ++ [p] := mR
  have hn : p + 1 ∉ pl ++ [p] := nap h1 (by omega)
  refine a_callN (b := p) (As := []) (st := .ref p :: st) F S (c_1_init (xl X) (P := up1 P p (fun _ => none)) (O := O) (up1 I p (fun _ => 0)) A J p hk hp hn (hC.new h0 (by omega))) L rfl im_yX1_init hdd rfl hd4 ?_ (by omega) (by show k2 + 2 + 400 ≤ ms; omega) (hl_app hls) (hs_r hp (hs_app hst)) ?_
  · show (1 + (st.map fun v => v.category).sum) ≤ 8; omega
  rintro _ _ _ ⟨rfl, rfl, rfl⟩ _
  rw [up_back hPp]
  exact kk
end
section
variable {X : Ctx} {cc : ByteArray} {own : String} {nL d mc ms : Nat} {pl : List Nat} {k1 k2 pc : Nat} {ls : List (Nat × Value)} {st : List Value} {P O : Nat → Nat → Option Nat} {I A : Nat → Nat → Int32} {J : Nat → Nat → Int64}
theorem a_newWh (F : Fx X cc own nL d mc ms) (S : SX X) {i1 i2 p : Nat} (hk : kC p = 10) (h0 : p ∉ pl) (h1 : p + 1 ∉ pl) (hC : clC P O pl) (hPp : P p = fun k => if k = 0 then some (p + 1) else none) (hcl : Cond.classLink own i1 (RR 10) ∈ lwG) (L : MN own i2 yX10_init cX10_init 1 none 0) (hd0 : decode cc pc = .ok (.new i1, 3)) (hd3 : decode cc (pc + 3) = .ok (.dup, 1)) (hd4 : decode cc (pc + 4) = .ok (.invokespecial i2, 3)) (hdd : 1 < d) (hc : k1 + 2 ≤ mc) (hs : k2 + 7 ≤ ms)
    (hls : ∀ x ∈ ls, ∀ p, x.2 = .ref p → p ∈ pl) (hst : ∀ v ∈ st, ∀ p, v = .ref p → p ∈ pl) (hcat : (st.map fun v => v.category).sum ≤ 7)
    (kk : WA X (mC P O (up1 I p (fun _ => 0)) A (up1 J (p + 1) (fun _ => 0))) (pl ++ [p] ++ [p + 1]) (k1 + 2) (k2 + 7) (pc + 7) ls (.ref p :: st)) : WA X (mC P O I A J) pl k1 k2 pc ls st := by
  refine a_new (ci := 10) (p := p) F (by decide) hk (hC.no h0) uw10 hcl it_10 ii_10 hd0 (by omega) (by show k2 + 1 ≤ ms; omega) hls hst ?_
  refine a_dup F hd3 rfl ?_
  have hp : p ∈ pl ++ [p] := mR
  have hn : p + 1 ∉ pl ++ [p] := nap h1 (by omega)
  refine a_callN (b := p) (As := []) (st := .ref p :: st) F S (c_10_init (xl X) (P := up1 P p (fun _ => none)) (O := O) (up1 I p (fun _ => 0)) A J p hk hp hn (hC.new h0 (by omega))) L rfl im_yX10_init hdd rfl hd4 ?_ (by omega) (by show k2 + 1 + 6 ≤ ms; omega) (hl_app hls) (hs_r hp (hs_app hst)) ?_
  · show (1 + (st.map fun v => v.category).sum) ≤ 8; omega
  rintro _ _ _ ⟨rfl, rfl, rfl⟩ _
  rw [up_back hPp]
  exact kk
end
theorem clC.rowq {P O : Nat → Nat → Option Nat} {pl : List Nat} {p : Nat} (h : clC P O pl) (hp : p ∉ pl) (hk : 13 ≤ kC p) : clC P (up1 O p (fun _ => none)) (pl ++ [p]) := fun q hq => by
  rcases List.mem_append.mp hq with hq | hq
  · have hne : q ≠ p := fun z => hp (z ▸ hq)
    exact ⟨fun k b hk hb => mL ((h q hq).1 k b hk hb), fun h16 i b hb => mL ((h q hq).2 h16 i b (by rw [up1_p hne] at hb; exact hb))⟩
  · have e := List.mem_singleton.mp hq
    subst e
    refine ⟨fun k b hr _ => ?_, fun _ i b hb => by rw [up1_s] at hb; exact absurd hb (fun z => nomatch z)⟩
    have : rF (kC q) k = false := by unfold rF; rw [show rfL.getD (kC q) [] = [] from by rw [List.getD_eq_getElem?_getD, List.getElem?_eq_none (by show 13 ≤ _; exact hk)]; rfl]; rfl
    rw [this] at hr; exact absurd hr (by decide)
/-- an object with its one row -/
theorem clC.ob {P O : Nat → Nat → Option Nat} {pl : List Nat} {p : Nat} (h : clC P O pl) (hp : p ∉ pl) (hk : kC p < 13) (hp2 : 13 ≤ kC (p + 1)) (hp3 : kC (p + 1) < 16) (h0 : rF (kC p) 0 = true) (hPp : P p = fun k => if k = 0 then some (p + 1) else none) : clC P O (pl ++ [p] ++ [p + 1]) := by
  have h1 := ((h.new hp (by omega)).row (p := p + 1) hp2 hp3).put (p := p) (k := 0) (b := p + 1) mR
  rw [up_back hPp] at h1
  exact h1
set_option maxRecDepth 10000 in
theorem c_3_init (l : Launch) {P O : Nat → Nat → Option Nat} (I A : Nat → Nat → Int32) (J : Nat → Nat → Int64) {pl : List Nat} (hp_102 : 102 ∈ pl) (hn_103 : 103 ∉ pl) (hC : clC P O pl) : ConS l 1 yX3_init cX3_init 1 none [.ref 102] (mC P O I A J) pl 1 8 (fun r σ' pl' => r = none ∧ σ' = mC (up2 P 102 0 (some 103)) (up1 O 103 (fun _ => none)) I A J ∧ pl' = pl ++ [103] ∧ clC (up2 P 102 0 (some 103)) (up1 O 103 (fun _ => none)) (pl ++ [103])) := by
  refine ConS.of (by decide) (Nat.le_of_ble_eq_true rfl) (fun X hX9 hn9 F E S => ?_)
  refine a_aload_n F 0 dX3_init_0 rfl rfl ?_
  refine a_objI F oi_3 oi_i oi_c (by decide) dX3_init_1 (by decide) ?_
  refine a_aload_n F 0 dX3_init_4 rfl rfl ?_
  refine a_bipush (v := 8) F dX3_init_5 (by decide) ?_
  refine a_newq (ci := 0) (p := 103) F (by decide) rfl (hC.no hn_103) cl_3_9 S.2.1.1 (by decide) rfl (Nat.le_of_ble_eq_true rfl) dX3_init_7 (Nat.le_of_ble_eq_true rfl) (Nat.le_of_ble_eq_true rfl) (hl_r hp_102 hl_nil) (hs_r hp_102 hs_nil) ?_
  have hC1 := hC.rowq (p := 103) hn_103 (by decide)
  refine a_putF F hn9 fl_3_11 rfl rfl rfl (fun _ => rfl) (fun _ => rfl) (mL hp_102) rfl dX3_init_10 ?_
  have hC2 := hC1.put (p := 102) (k := 0) mR
  exact a_vret F E dX3_init_13 (Nat.le_of_ble_eq_true rfl) (Nat.le_of_ble_eq_true rfl) ⟨rfl, rfl, rfl, by first | exact hC2 | assumption⟩

set_option maxRecDepth 10000 in
theorem c_5_init (l : Launch) {P O : Nat → Nat → Option Nat} (I A : Nat → Nat → Int32) (J : Nat → Nat → Int64) {pl : List Nat} (hp_104 : 104 ∈ pl) (hp_120 : 120 ∈ pl) (hC : clC P O pl) : Con l 1 yX5_init cX5_init 2 none [.ref 104, .ref 120] (mC P O I A J) pl 0 0 (fun r σ' pl' => r = none ∧ σ' = mC (up2 P 104 0 (some 120)) O (up2 I 104 8 (-1)) A J ∧ pl' = pl ∧ clC (up2 P 104 0 (some 120)) O (pl)) := by
  refine Con.of (by decide) (Nat.le_of_ble_eq_true rfl) (fun X hX9 hn9 F E => ?_)
  refine a_aload_n F 0 dX5_init_0 rfl rfl ?_
  refine a_objI F oi_5 oi_i oi_c (by decide) dX5_init_1 (by decide) ?_
  refine a_aload_n F 0 dX5_init_4 rfl rfl ?_
  refine a_iconst (v := -1) F dX5_init_5 (by decide) ?_
  refine a_puti F fl_5_9 rfl rfl rfl rfl hp_104 rfl dX5_init_6 ?_
  refine a_aload_n F 0 dX5_init_9 rfl rfl ?_
  refine a_aload_n F 1 dX5_init_10 rfl rfl ?_
  refine a_putF F hn9 fl_5_15 rfl rfl rfl (fun _ => rfl) (fun _ => rfl) hp_104 rfl dX5_init_11 ?_
  have hC1 := hC.put (p := 104) (k := 0) hp_120
  exact a_vret F E dX5_init_14 (Nat.le_of_ble_eq_true rfl) (Nat.le_of_ble_eq_true rfl) ⟨rfl, rfl, rfl, by first | exact hC1 | assumption⟩

set_option maxRecDepth 10000 in
theorem c_9_init (l : Launch) {P O : Nat → Nat → Option Nat} (I A : Nat → Nat → Int32) (J : Nat → Nat → Int64) {pl : List Nat} (hp_106 : 106 ∈ pl) (hp_104 : 104 ∈ pl) (hn_132 : 132 ∉ pl) (hn_133 : 133 ∉ pl) (hn_107 : 107 ∉ pl) (hn_108 : 108 ∉ pl) (hn_109 : 109 ∉ pl) (hC : clC P O pl) (hP_132 : P 132 = fun k => if k = 0 then some (132 + 1) else none) : ConS l 2 yX9_init cX9_init 2 none [.ref 106, .ref 104] (mC P O I A J) pl 5 78 (fun r σ' pl' => r = none ∧ σ' = mC (up2 (up2 (up2 (up2 (up2 P 106 1 (some 132)) 106 2 (some 107)) 106 3 (some 108)) 106 4 (some 109)) 106 0 (some 104)) O (up1 I 132 (fun _ => 0)) (up1 (up1 (up1 (up1 A 133 (fun _ => 0)) 107 (fun _ => 0)) 108 (fun _ => 0)) 109 (fun _ => 0)) J ∧ pl' = ((((pl ++ [132] ++ [133]) ++ [107]) ++ [108]) ++ [109]) ∧ clC (up2 (up2 (up2 (up2 (up2 P 106 1 (some 132)) 106 2 (some 107)) 106 3 (some 108)) 106 4 (some 109)) 106 0 (some 104)) O (((((pl ++ [132] ++ [133]) ++ [107]) ++ [108]) ++ [109]))) := by
  refine ConS.of (by decide) (Nat.le_of_ble_eq_true rfl) (fun X hX9 hn9 F E S => ?_)
  refine a_aload_n F 0 dX9_init_0 rfl rfl ?_
  refine a_objI F oi_9 oi_i oi_c (by decide) dX9_init_1 (by decide) ?_
  refine a_aload_n F 0 dX9_init_4 rfl rfl ?_
  refine a_newBd (p := 132) F S rfl hn_132 hn_133 hC (by first | rfl | exact hP_132) cl_9_9 mn_9_11 dX9_init_5 dX9_init_8 dX9_init_9 (by decide) (Nat.le_of_ble_eq_true rfl) (Nat.le_of_ble_eq_true rfl) (hl_r hp_106 (hl_r hp_104 hl_nil)) (hs_r hp_106 hs_nil) (by decide) ?_
  have hC1 := clC.ob hC (p := 132) hn_132 (by decide) (by decide) (by decide) (by decide) (by first | rfl | exact hP_132)
  refine a_putF F hn9 fl_9_12 rfl rfl rfl (fun _ => rfl) (fun _ => rfl) (mL (mL hp_106)) rfl dX9_init_12 ?_
  have hC2 := hC1.put (p := 106) (k := 1) (mL mR)
  refine a_aload_n F 0 dX9_init_15 rfl rfl ?_
  refine a_bipush (v := 8) F dX9_init_16 (by decide) ?_
  refine a_newi (p := 107) F rfl (hC2.no (nap (nap hn_107 (by decide)) (by decide))) ac_int (by decide) rfl (Nat.le_of_ble_eq_true rfl) dX9_init_18 (Nat.le_of_ble_eq_true rfl) (Nat.le_of_ble_eq_true rfl) (hl_r (mL (mL hp_106)) (hl_r (mL (mL hp_104)) hl_nil)) (hs_r (mL (mL hp_106)) hs_nil) ?_
  have hC3 := hC2.row (p := 107) (by decide) (by decide)
  refine a_putF F hn9 fl_9_18 rfl rfl rfl (fun _ => rfl) (fun _ => rfl) (mL (mL (mL hp_106))) rfl dX9_init_20 ?_
  have hC4 := hC3.put (p := 106) (k := 2) mR
  refine a_aload_n F 0 dX9_init_23 rfl rfl ?_
  refine a_bipush (v := 8) F dX9_init_24 (by decide) ?_
  refine a_newi (p := 108) F rfl (hC4.no (nap (nap (nap hn_108 (by decide)) (by decide)) (by decide))) ac_int (by decide) rfl (Nat.le_of_ble_eq_true rfl) dX9_init_26 (Nat.le_of_ble_eq_true rfl) (Nat.le_of_ble_eq_true rfl) (hl_r (mL (mL (mL hp_106))) (hl_r (mL (mL (mL hp_104))) hl_nil)) (hs_r (mL (mL (mL hp_106))) hs_nil) ?_
  have hC5 := hC4.row (p := 108) (by decide) (by decide)
  refine a_putF F hn9 fl_9_22 rfl rfl rfl (fun _ => rfl) (fun _ => rfl) (mL (mL (mL (mL hp_106)))) rfl dX9_init_28 ?_
  have hC6 := hC5.put (p := 106) (k := 3) mR
  refine a_aload_n F 0 dX9_init_31 rfl rfl ?_
  refine a_bipush (v := 8) F dX9_init_32 (by decide) ?_
  refine a_newz (p := 109) F rfl (hC6.no (nap (nap (nap (nap hn_109 (by decide)) (by decide)) (by decide)) (by decide))) ac_boolean (by decide) rfl (Nat.le_of_ble_eq_true rfl) dX9_init_34 (Nat.le_of_ble_eq_true rfl) (Nat.le_of_ble_eq_true rfl) (hl_r (mL (mL (mL (mL hp_106)))) (hl_r (mL (mL (mL (mL hp_104)))) hl_nil)) (hs_r (mL (mL (mL (mL hp_106)))) hs_nil) ?_
  have hC7 := hC6.row (p := 109) (by decide) (by decide)
  refine a_putF F hn9 fl_9_25 rfl rfl rfl (fun _ => rfl) (fun _ => rfl) (mL (mL (mL (mL (mL hp_106))))) rfl dX9_init_36 ?_
  have hC8 := hC7.put (p := 106) (k := 4) mR
  refine a_aload_n F 0 dX9_init_39 rfl rfl ?_
  refine a_aload_n F 1 dX9_init_40 rfl rfl ?_
  refine a_putF F hn9 fl_9_29 rfl rfl rfl (fun _ => rfl) (fun _ => rfl) (mL (mL (mL (mL (mL hp_106))))) rfl dX9_init_41 ?_
  have hC9 := hC8.put (p := 106) (k := 0) (mL (mL (mL (mL (mL hp_104)))))
  exact a_vret F E dX9_init_44 (Nat.le_of_ble_eq_true rfl) (Nat.le_of_ble_eq_true rfl) ⟨rfl, rfl, rfl, by first | exact hC9 | assumption⟩

set_option maxRecDepth 10000 in
theorem c_6_init (l : Launch) {P O : Nat → Nat → Option Nat} (I A : Nat → Nat → Int32) (J : Nat → Nat → Int64) {pl : List Nat} (hp_110 : 110 ∈ pl) (hp_130 : 130 ∈ pl) (hn_111 : 111 ∉ pl) (hn_112 : 112 ∉ pl) (hn_300 : 300 ∉ pl) (hn_301 : 301 ∉ pl) (hC : clC P O pl) : Con l 1 yX6_init cX6_init 2 none [.ref 110, .ref 130] (mC P O I A J) pl 4 296 (fun r σ' pl' => r = none ∧ σ' = mC (up2 (up2 (up2 (up2 (up2 P 110 1 (some 111)) 110 2 (some 112)) 110 3 (some 300)) 110 4 (some 301)) 110 0 (some 130)) O I (up1 (up1 A 112 (fun _ => 0)) 301 (fun _ => 0)) (up1 (up1 J 111 (fun _ => 0)) 300 (fun _ => 0)) ∧ pl' = (((pl ++ [111] ++ [112]) ++ [300]) ++ [301]) ∧ clC (up2 (up2 (up2 (up2 (up2 P 110 1 (some 111)) 110 2 (some 112)) 110 3 (some 300)) 110 4 (some 301)) 110 0 (some 130)) O ((((pl ++ [111] ++ [112]) ++ [300]) ++ [301]))) := by
  refine Con.of (by decide) (Nat.le_of_ble_eq_true rfl) (fun X hX9 hn9 F E => ?_)
  refine a_aload_n F 0 dX6_init_0 rfl rfl ?_
  refine a_objI F oi_6 oi_i oi_c (by decide) dX6_init_1 (by decide) ?_
  refine a_aload_n F 0 dX6_init_4 rfl rfl ?_
  refine a_iconst (v := 4) F dX6_init_5 (by decide) ?_
  refine a_newl (p := 111) F rfl (hC.no hn_111) ac_long (by decide) rfl (Nat.le_of_ble_eq_true rfl) dX6_init_6 (Nat.le_of_ble_eq_true rfl) (Nat.le_of_ble_eq_true rfl) (hl_r hp_110 (hl_r hp_130 hl_nil)) (hs_r hp_110 hs_nil) ?_
  have hC1 := hC.row (p := 111) (by decide) (by decide)
  refine a_putF F hn9 fl_6_11 rfl rfl rfl (fun _ => rfl) (fun _ => rfl) (mL hp_110) rfl dX6_init_8 ?_
  have hC2 := hC1.put (p := 110) (k := 1) mR
  refine a_aload_n F 0 dX6_init_11 rfl rfl ?_
  refine a_iconst (v := 4) F dX6_init_12 (by decide) ?_
  refine a_newz (p := 112) F rfl (hC2.no (nap hn_112 (by decide))) ac_boolean (by decide) rfl (Nat.le_of_ble_eq_true rfl) dX6_init_13 (Nat.le_of_ble_eq_true rfl) (Nat.le_of_ble_eq_true rfl) (hl_r (mL hp_110) (hl_r (mL hp_130) hl_nil)) (hs_r (mL hp_110) hs_nil) ?_
  have hC3 := hC2.row (p := 112) (by decide) (by decide)
  refine a_putF F hn9 fl_6_15 rfl rfl rfl (fun _ => rfl) (fun _ => rfl) (mL (mL hp_110)) rfl dX6_init_15 ?_
  have hC4 := hC3.put (p := 110) (k := 2) mR
  refine a_aload_n F 0 dX6_init_18 rfl rfl ?_
  refine a_sipush (v := 240) F dX6_init_19 (by decide) ?_
  refine a_newl (p := 300) F rfl (hC4.no (nap (nap hn_300 (by decide)) (by decide))) ac_long (by decide) rfl (Nat.le_of_ble_eq_true rfl) dX6_init_22 (Nat.le_of_ble_eq_true rfl) (Nat.le_of_ble_eq_true rfl) (hl_r (mL (mL hp_110)) (hl_r (mL (mL hp_130)) hl_nil)) (hs_r (mL (mL hp_110)) hs_nil) ?_
  have hC5 := hC4.row (p := 300) (by decide) (by decide)
  refine a_putr F fl_6_19 rfl rfl (fun _ => rfl) (fun _ => rfl) (mL (mL (mL hp_110))) rfl dX6_init_24 ?_
  have hC6 := hC5.put (p := 110) (k := 3) mR
  refine a_aload_n F 0 dX6_init_27 rfl rfl ?_
  refine a_bipush (v := 48) F dX6_init_28 (by decide) ?_
  refine a_newi (p := 301) F rfl (hC6.no (nap (nap (nap hn_301 (by decide)) (by decide)) (by decide))) ac_int (by decide) rfl (Nat.le_of_ble_eq_true rfl) dX6_init_30 (Nat.le_of_ble_eq_true rfl) (Nat.le_of_ble_eq_true rfl) (hl_r (mL (mL (mL hp_110))) (hl_r (mL (mL (mL hp_130))) hl_nil)) (hs_r (mL (mL (mL hp_110))) hs_nil) ?_
  have hC7 := hC6.row (p := 301) (by decide) (by decide)
  refine a_putr F fl_6_22 rfl rfl (fun _ => rfl) (fun _ => rfl) (mL (mL (mL (mL hp_110)))) rfl dX6_init_32 ?_
  have hC8 := hC7.put (p := 110) (k := 4) mR
  refine a_aload_n F 0 dX6_init_35 rfl rfl ?_
  refine a_aload_n F 1 dX6_init_36 rfl rfl ?_
  refine a_putF F hn9 fl_6_26 rfl rfl rfl (fun _ => rfl) (fun _ => rfl) (mL (mL (mL (mL hp_110)))) rfl dX6_init_37 ?_
  have hC9 := hC8.put (p := 110) (k := 0) (mL (mL (mL (mL hp_130))))
  exact a_vret F E dX6_init_40 (Nat.le_of_ble_eq_true rfl) (Nat.le_of_ble_eq_true rfl) ⟨rfl, rfl, rfl, by first | exact hC9 | assumption⟩

set_option maxRecDepth 10000 in
theorem c_2_init (l : Launch) {P O : Nat → Nat → Option Nat} (I A : Nat → Nat → Int32) (J : Nat → Nat → Int64) {pl : List Nat} (hp_114 : 114 ∈ pl) (hn_115 : 115 ∉ pl) (hC : clC P O pl) : Con l 1 yX2_init cX2_init 1 none [.ref 114] (mC P O I A J) pl 1 2 (fun r σ' pl' => r = none ∧ σ' = mC (up2 P 114 0 (some 115)) O (up2 (up2 (up2 I 114 2 (-1)) 114 9 (-1)) 114 13 (1)) (up1 A 115 (fun _ => 0)) J ∧ pl' = pl ++ [115] ∧ clC (up2 P 114 0 (some 115)) O (pl ++ [115])) := by
  refine Con.of (by decide) (Nat.le_of_ble_eq_true rfl) (fun X hX9 hn9 F E => ?_)
  refine a_aload_n F 0 dX2_init_0 rfl rfl ?_
  refine a_objI F oi_2 oi_i oi_c (by decide) dX2_init_1 (by decide) ?_
  refine a_aload_n F 0 dX2_init_4 rfl rfl ?_
  refine a_iconst (v := 2) F dX2_init_5 (by decide) ?_
  refine a_newi (p := 115) F rfl (hC.no hn_115) ac_int (by decide) rfl (Nat.le_of_ble_eq_true rfl) dX2_init_6 (Nat.le_of_ble_eq_true rfl) (Nat.le_of_ble_eq_true rfl) (hl_r hp_114 hl_nil) (hs_r hp_114 hs_nil) ?_
  have hC1 := hC.row (p := 115) (by decide) (by decide)
  refine a_putF F hn9 fl_2_9 rfl rfl rfl (fun _ => rfl) (fun _ => rfl) (mL hp_114) rfl dX2_init_8 ?_
  have hC2 := hC1.put (p := 114) (k := 0) mR
  refine a_aload_n F 0 dX2_init_11 rfl rfl ?_
  refine a_iconst (v := -1) F dX2_init_12 (by decide) ?_
  refine a_puti F fl_2_15 rfl rfl rfl rfl (mL hp_114) rfl dX2_init_13 ?_
  refine a_aload_n F 0 dX2_init_16 rfl rfl ?_
  refine a_iconst (v := -1) F dX2_init_17 (by decide) ?_
  refine a_puti F fl_2_19 rfl rfl rfl rfl (mL hp_114) rfl dX2_init_18 ?_
  refine a_aload_n F 0 dX2_init_21 rfl rfl ?_
  refine a_iconst (v := 1) F dX2_init_22 (by decide) ?_
  refine a_puti F fl_2_22 rfl rfl rfl rfl (mL hp_114) rfl dX2_init_23 ?_
  exact a_vret F E dX2_init_26 (Nat.le_of_ble_eq_true rfl) (Nat.le_of_ble_eq_true rfl) ⟨rfl, rfl, rfl, by first | exact hC2 | assumption⟩

set_option maxRecDepth 10000 in
theorem c_4_init (l : Launch) {P O : Nat → Nat → Option Nat} (I A : Nat → Nat → Int32) (J : Nat → Nat → Int64) {pl : List Nat} (hp_126 : 126 ∈ pl) (hp_122 : 122 ∈ pl) (hn_140 : 140 ∉ pl) (hn_141 : 141 ∉ pl) (hn_127 : 127 ∉ pl) (hn_142 : 142 ∉ pl) (hn_143 : 143 ∉ pl) (hC : clC P O pl) (hP_140 : P 140 = fun k => if k = 0 then some (140 + 1) else none) (hP_142 : P 142 = fun k => if k = 0 then some (142 + 1) else none) : ConS l 2 yX4_init cX4_init 2 none [.ref 126, .ref 122] (mC P O I A J) pl 5 74 (fun r σ' pl' => r = none ∧ σ' = mC (up2 (up2 (up2 (up2 P 126 1 (some 140)) 126 2 (some 127)) 126 3 (some 142)) 126 0 (some 122)) O (up1 (up1 I 140 (fun _ => 0)) 142 (fun _ => 0)) (up1 A 127 (fun _ => 0)) (up1 (up1 J 141 (fun _ => 0)) 143 (fun _ => 0)) ∧ pl' = ((((pl ++ [140] ++ [141]) ++ [127]) ++ [142]) ++ [143]) ∧ clC (up2 (up2 (up2 (up2 P 126 1 (some 140)) 126 2 (some 127)) 126 3 (some 142)) 126 0 (some 122)) O (((((pl ++ [140] ++ [141]) ++ [127]) ++ [142]) ++ [143]))) := by
  refine ConS.of (by decide) (Nat.le_of_ble_eq_true rfl) (fun X hX9 hn9 F E S => ?_)
  refine a_aload_n F 0 dX4_init_0 rfl rfl ?_
  refine a_objI F oi_4 oi_i oi_c (by decide) dX4_init_1 (by decide) ?_
  refine a_aload_n F 0 dX4_init_4 rfl rfl ?_
  refine a_newWh (p := 140) F S rfl hn_140 hn_141 hC (by first | rfl | exact hP_140) cl_4_7 mn_4_9 dX4_init_5 dX4_init_8 dX4_init_9 (by decide) (Nat.le_of_ble_eq_true rfl) (Nat.le_of_ble_eq_true rfl) (hl_r hp_126 (hl_r hp_122 hl_nil)) (hs_r hp_126 hs_nil) (by decide) ?_
  have hC1 := clC.ob hC (p := 140) hn_140 (by decide) (by decide) (by decide) (by decide) (by first | rfl | exact hP_140)
  refine a_putF F hn9 fl_4_10 rfl rfl rfl (fun _ => rfl) (fun _ => rfl) (mL (mL hp_126)) rfl dX4_init_12 ?_
  have hC2 := hC1.put (p := 126) (k := 1) (mL mR)
  refine a_aload_n F 0 dX4_init_15 rfl rfl ?_
  refine a_bipush (v := 60) F dX4_init_16 (by decide) ?_
  refine a_newi (p := 127) F rfl (hC2.no (nap (nap hn_127 (by decide)) (by decide))) ac_int (by decide) rfl (Nat.le_of_ble_eq_true rfl) dX4_init_18 (Nat.le_of_ble_eq_true rfl) (Nat.le_of_ble_eq_true rfl) (hl_r (mL (mL hp_126)) (hl_r (mL (mL hp_122)) hl_nil)) (hs_r (mL (mL hp_126)) hs_nil) ?_
  have hC3 := hC2.row (p := 127) (by decide) (by decide)
  refine a_putF F hn9 fl_4_16 rfl rfl rfl (fun _ => rfl) (fun _ => rfl) (mL (mL (mL hp_126))) rfl dX4_init_20 ?_
  have hC4 := hC3.put (p := 126) (k := 2) mR
  refine a_aload_n F 0 dX4_init_23 rfl rfl ?_
  refine a_newWh (p := 142) F S rfl (nap (nap (nap hn_142 (by decide)) (by decide)) (by decide)) (nap (nap (nap hn_143 (by decide)) (by decide)) (by decide)) hC4 (by first | rfl | exact hP_142) cl_4_7 mn_4_9 dX4_init_24 dX4_init_27 dX4_init_28 (by decide) (Nat.le_of_ble_eq_true rfl) (Nat.le_of_ble_eq_true rfl) (hl_r (mL (mL (mL hp_126))) (hl_r (mL (mL (mL hp_122))) hl_nil)) (hs_r (mL (mL (mL hp_126))) hs_nil) (by decide) ?_
  have hC5 := clC.ob hC4 (p := 142) (nap (nap (nap hn_142 (by decide)) (by decide)) (by decide)) (by decide) (by decide) (by decide) (by decide) (by first | rfl | exact hP_142)
  refine a_putF F hn9 fl_4_20 rfl rfl rfl (fun _ => rfl) (fun _ => rfl) (mL (mL (mL (mL (mL hp_126))))) rfl dX4_init_31 ?_
  have hC6 := hC5.put (p := 126) (k := 3) (mL mR)
  refine a_aload_n F 0 dX4_init_34 rfl rfl ?_
  refine a_aload_n F 1 dX4_init_35 rfl rfl ?_
  refine a_putF F hn9 fl_4_23 rfl rfl rfl (fun _ => rfl) (fun _ => rfl) (mL (mL (mL (mL (mL hp_126))))) rfl dX4_init_36 ?_
  have hC7 := hC6.put (p := 126) (k := 0) (mL (mL (mL (mL (mL hp_122)))))
  exact a_vret F E dX4_init_39 (Nat.le_of_ble_eq_true rfl) (Nat.le_of_ble_eq_true rfl) ⟨rfl, rfl, rfl, by first | exact hC7 | assumption⟩
