/-! public methods: best, within, race -/
theorem ch_w {O : Nat → Nat → Option Nat} {J : Nat → Nat → Int64} {s n : Nat} (h : dnC O J s) (hn : n ≤ 12) : chV O J s n = lN (wN n s) := by
  unfold chV
  by_cases c : n = 0
  · subst c
    rw [if_pos rfl, wN_z]
    split <;> rfl
  · rw [if_neg c, if_neg (by rw [h.1]; exact fun z => nomatch z), h.2.2.2 n (by omega) hn]
theorem wN_63 {s n : Nat} (hs : stnd s) (hn : n ≤ 12) : wN n s < 2 ^ 63 := Nat.lt_of_le_of_lt (wN_le n hs) (Nat.lt_of_le_of_lt (Nat.pow_le_pow_right (by decide) hn) (by decide))
theorem nd_rc (O : Nat → Nat → Option Nat) (x y : Nat) : ndF O x ≤ rcF O x y := su_leF 848 (fun k hk => by
  rw [Nat.zero_add]
  by_cases c : O 117 k = none ∧ ∃ u, stnd u ∧ domS u x ∧ rkN u / 64 = k
  · obtain ⟨c1, u, h1, h2, h3⟩ := c
    rw [nK_1 ⟨c1, u, h1, h2, h3⟩, rK_1 ⟨c1, u, h1, Or.inl h2, h3⟩]; exact Nat.le_refl _
  · rw [nK_0 c]; exact Nat.zero_le _)
theorem r_11_best_0 {X : Ctx} {mc ms k1 k2 : Nat} (F : Fx X cX11_best RX11 4 18 mc ms) (S : SXX X) {Ψx : String → HS → List Nat → Prop} (T : Tx X mc ms Ψx) (hk1 : k1 + 6 ≤ mc) (hk2 : k2 + 36 ≤ ms) {P O : Nat → Nat → Option Nat} (hP : laP P) {I A : Nat → Nat → Int32} {J : Nat → Nat → Int64} {pl : List Nat} (hB : inB pl) {x1 x2 x3 : Int32}
    (e_1 : ¬ (stdI x1) → Ψx "java/lang/IllegalArgumentException" (mC P O I A J) pl)
    (e_2 : (stdI x1) → ¬ ((1 ≤ x2 ∧ x2 ≤ 6) ∧ (1 ≤ x3 ∧ x3 ≤ 6)) → Ψx "java/lang/IllegalArgumentException" (mC P O I A J) pl)
    (o_3 : (stdI x1) → ((1 ≤ x2 ∧ x2 ≤ 6) ∧ (1 ≤ x3 ∧ x3 ≤ 6)) → stdI x1)
    (e_4 : (stdI x1) → ((1 ≤ x2 ∧ x2 ≤ 6) ∧ (1 ≤ x3 ∧ x3 ≤ 6)) → ¬ (nI (pipS x1.toNatClampNeg) ≤ (I 100 10)) → Ψx "java/lang/IllegalStateException" (mC P O I A J) pl)
    (e_5 : (stdI x1) → ((1 ≤ x2 ∧ x2 ≤ 6) ∧ (1 ≤ x3 ∧ x3 ≤ 6)) → (nI (pipS x1.toNatClampNeg) ≤ (I 100 10)) → WA X (mC P O I A J) pl (k1 + 1 + 1 + 1) (k2 + 6 + 6 + 6) 19 [(0, .ref 100), (1, .int x1), (2, .int x2), (3, .int x3)] [.int x1, .ref 116]) :
    WA X (mC P O I A J) pl k1 k2 0 [(0, .ref 100), (1, .int x1), (2, .int x2), (3, .int x3)] [] := by
  refine a_iload_n F 1 dX11_best_0 rfl rfl ?_
  refine a_callSX (As := [.int x1]) (st := []) F S T (c_11_checkStand (xl X) T.1 hP I A J hB x1) ml_11_244 sm_yX11_checkStand (by decide) rfl dX11_best_1 (by decide) (by omega) (by omega) (hl_r (hB _ (by decide)) (hl_i (hl_i (hl_i hl_nil)))) hs_nil (by rintro _ _ _ ⟨rfl, rfl, rfl, c⟩ _; exact e_1 c) ?_
  rintro _ _ _ ⟨rfl, rfl, rfl, c_1⟩ _
  show WA X (mC P O I A J) pl (k1 + 1) (k2 + 6) 4 [(0, .ref 100), (1, .int x1), (2, .int x2), (3, .int x3)] []
  refine a_iload_n F 2 dX11_best_4 rfl rfl ?_
  refine a_iload_n F 3 dX11_best_5 rfl rfl ?_
  refine a_callSX (As := [.int x2, .int x3]) (st := []) F S T (c_11_checkDice (xl X) T.1 hP I A J hB x2 x3) ml_11_154 sm_yX11_checkDice (by decide) rfl dX11_best_6 (by decide) (by omega) (by omega) (hl_r (hB _ (by decide)) (hl_i (hl_i (hl_i hl_nil)))) hs_nil (by rintro _ _ _ ⟨rfl, rfl, rfl, c⟩ _; exact e_2 c_1 c) ?_
  rintro _ _ _ ⟨rfl, rfl, rfl, c_2⟩ _
  show WA X (mC P O I A J) pl (k1 + 1 + 1) (k2 + 6 + 6) 9 [(0, .ref 100), (1, .int x1), (2, .int x2), (3, .int x3)] []
  refine a_aload_n F 0 dX11_best_9 rfl rfl ?_
  refine a_iload_n F 1 dX11_best_10 rfl rfl ?_
  refine a_callVX (b := 100) (As := [.int x1]) (st := []) (ci := 11) F S T (c_11_checkKnownI (xl X) T.1 hP I A J hB x1 (o_3 c_1 c_2)) ml_11_247 im_yX11_checkKnown se_yX11_checkKnown (by decide) (by decide) rfl (hB _ (by decide)) rfl rfl dX11_best_11 (by decide) (by omega) (by omega) (hl_r (hB _ (by decide)) (hl_i (hl_i (hl_i hl_nil)))) hs_nil (by rintro _ _ _ ⟨rfl, rfl, rfl, c⟩ _; exact e_4 c_1 c_2 c) ?_
  rintro _ _ _ ⟨rfl, rfl, rfl, c_3⟩ _
  show WA X (mC P O I A J) pl (k1 + 1 + 1 + 1) (k2 + 6 + 6 + 6) 14 [(0, .ref 100), (1, .int x1), (2, .int x2), (3, .int x3)] []
  refine a_aload_n F 0 dX11_best_14 rfl rfl ?_
  refine a_getr (b := 116) F fl_11_70 rfl (hB _ (by decide)) rfl ((hP 100 8 (by decide)).trans rfl) dX11_best_15 ?_
  refine a_iload_n F 1 dX11_best_18 rfl rfl ?_
  exact e_5 c_1 c_2 c_3

theorem r_11_best_22b {X : Ctx} {mc ms k1 k2 : Nat} (F : Fx X cX11_best RX11 4 18 mc ms) (S : SXX X) {Ψx : String → HS → List Nat → Prop} (T : Tx X mc ms Ψx) (hk1 : k1 + 6 ≤ mc) (hk2 : k2 + 36 ≤ ms) {P O : Nat → Nat → Option Nat} (hP : laP P) {I A : Nat → Nat → Int32} {J : Nat → Nat → Int64} {pl : List Nat} (hB : inB pl) {x1 x2 x3 : Int32}
    (e_1 : WA X (mC P O I A J) pl k1 k2 29 [(0, .ref 100), (1, .int x1), (2, .int x2), (3, .int x3)] [.int x3, .int x2, .int x1, .ref 116]) :
    WA X (mC P O I A J) pl k1 k2 22 [(0, .ref 100), (1, .int x1), (2, .int x2), (3, .int x3)] [] := by
  refine a_aload_n F 0 dX11_best_22 rfl rfl ?_
  refine a_getr (b := 116) F fl_11_70 rfl (hB _ (by decide)) rfl ((hP 100 8 (by decide)).trans rfl) dX11_best_23 ?_
  refine a_iload_n F 1 dX11_best_26 rfl rfl ?_
  refine a_iload_n F 2 dX11_best_27 rfl rfl ?_
  refine a_iload_n F 3 dX11_best_28 rfl rfl ?_
  exact e_1

set_option maxRecDepth 10000 in
theorem c_11_best (l : Launch) (hst : l.stackTraces = false) {P O : Nat → Nat → Option Nat} (hP : laP P) (I A : Nat → Nat → Int32) (J : Nat → Nat → Int64) {pl : List Nat} (hB : inB pl) (x a b : Int32) (hF : laF P) (hS : shI I) (hO : shO O pl) (ht : rkT (A 118)) (hC : clC P O pl) (hT : pwT J) (hsd : sdI O J) : ConX l 18 yX11_best cX11_best 4 (some .int) [.ref 100, .int x, .int a, .int b] (mC P O I A J) pl (10 + gN (stdI x ∧ ((1 ≤ a ∧ a ≤ 6) ∧ (1 ≤ b ∧ b ≤ 6)) ∧ nI (pipS x.toNatClampNeg) ≤ I 100 10) (2 * ndF O x.toNatClampNeg)) (90 + gN (stdI x ∧ ((1 ≤ a ∧ a ≤ 6) ∧ (1 ≤ b ∧ b ≤ 6)) ∧ nI (pipS x.toNatClampNeg) ≤ I 100 10) (1153 * ndF O x.toNatClampNeg)) (fun r σ' pl' => stdI x ∧ ((1 ≤ a ∧ a ≤ 6) ∧ (1 ≤ b ∧ b ≤ 6)) ∧ nI (pipS x.toNatClampNeg) ≤ I 100 10 ∧ ∃ P1 O1 I1 J1, woQ P O I A J pl x.toNatClampNeg none (mC P1 O1 I1 A J1) pl' ∧ pcQ P1 O1 I1 A J1 pl' x.toNatClampNeg a.toNatClampNeg b.toNatClampNeg r σ' pl') (fun E σ' pl' => σ' = mC P O I A J ∧ pl = pl' ∧ ((E = "java/lang/IllegalArgumentException" ∧ ¬ (stdI x ∧ ((1 ≤ a ∧ a ≤ 6) ∧ (1 ≤ b ∧ b ≤ 6)))) ∨ (E = "java/lang/IllegalStateException" ∧ (stdI x ∧ ((1 ≤ a ∧ a ≤ 6) ∧ (1 ≤ b ∧ b ≤ 6))) ∧ ¬ nI (pipS x.toNatClampNeg) ≤ I 100 10))) := by
  refine ConX.of hst (by decide) (Nat.le_of_ble_eq_true rfl) (fun X hX9 hn9 F E S T => ?_)
  refine r_11_best_0 F S T (by omega) (by omega) hP hB (fun h => ⟨rfl, rfl, Or.inl ⟨rfl, fun z => h z.1⟩⟩) (fun h1 h => ⟨rfl, rfl, Or.inl ⟨rfl, fun z => h z.2⟩⟩) (fun h _ => h) (fun h1 h3 h2 => ⟨rfl, rfl, Or.inr ⟨rfl, ⟨h1, h3⟩, h2⟩⟩) (fun h1 h3 h2 => ?_)
  obtain ⟨s, hs, rfl⟩ := std_of h1
  have hs2 : s < 2 ^ 31 := Nat.lt_trans hs.1 (by decide)
  have es : (nI s).toNatClampNeg = s := nI_clamp hs2
  rw [gN_t ⟨h1, h3, h2⟩, gN_t ⟨h1, h3, h2⟩] at F E T
  rw [es] at F E T h2
  have hwk := wk_nd hsd hs
  rw [← hwk] at F E T
  refine a_callVS (b := 116) (As := [.int (nI s)]) (st := []) (ci := 8) F S.1 (c_8_workOut (xl X) hP I A J hB s hF hS hO hs ht hC hT hsd) ml_11_250 im_yX8_workOut se_yX8_workOut (by decide) (by decide) rfl (hB _ (by decide)) rfl rfl dX11_best_19 (by decide) (by omega) (by omega) (hl_r (hB _ (by decide)) (hl_i (hl_i (hl_i hl_nil)))) hs_nil ?_
  rintro r1 σ1 pl1 ⟨rfl, P1, O1, I1, J1, rfl, hg, hsd1, hdn, hfr⟩ _
  have hP1 := hg.la hP
  have hB1 := hg.b hB
  obtain ⟨u, v, rfl, rfl, hu, hv⟩ := dice_n h3
  refine r_11_best_22b F S T (by omega) (by omega) hP1 hB1 ?_
  refine a_callV (b := 116) (As := [.int (nI s), .int (nI u), .int (nI v)]) (st := []) (ci := 8) F (c_8_pick (xl X) hP1 I1 A J1 hB1 s u v hg.2.2.2.1 hs hu.1 hu.2 hv.1 hv.2 ht hg.2.2.1 (fun w hw => hsd1.2 s w hs (Res_st hu.1 hv.1 hs hw).1 hdn (Res_dom hu.1 hv.1 hs hw))) ml_11_263 im_yX8_pick se_yX8_pick (by decide) (by decide) rfl (hB1 _ (by decide)) rfl rfl dX11_best_29 (by decide) (by omega) (by omega) (hl_r (hB1 _ (by decide)) (hl_i (hl_i (hl_i hl_nil)))) hs_nil ?_
  intro r2 σ2 pl2 hpc _
  have hpc' := hpc
  obtain ⟨rfl, rfl, P2, I2, rfl, hpr⟩ := hpc
  refine a_iret F E dX11_best_32 (by omega) (by omega) ⟨h1, h3, h2, P1, O1, I1, J1, ⟨rfl, P1, O1, I1, J1, rfl, hg, hsd1, hdn, hfr⟩, ?_⟩
  rw [nI_clamp (by omega), nI_clamp (by omega)]
  exact hpc'

theorem r_11_within_0 {X : Ctx} {mc ms k1 k2 : Nat} (F : Fx X cX11_within RX11 3 18 mc ms) (S : SXX X) {Ψx : String → HS → List Nat → Prop} (T : Tx X mc ms Ψx) (hk1 : k1 + 6 ≤ mc) (hk2 : k2 + 36 ≤ ms) {P O : Nat → Nat → Option Nat} (hP : laP P) {I A : Nat → Nat → Int32} {J : Nat → Nat → Int64} {pl : List Nat} (hB : inB pl) {x1 x2 : Int32}
    (e_1 : ¬ (stdI x1) → Ψx "java/lang/IllegalArgumentException" (mC P O I A J) pl)
    (e_2 : (stdI x1) → (x2 < 0) → Ψx "java/lang/IllegalArgumentException" (mC P O I A J) pl)
    (o_3 : (stdI x1) → (¬ (x2 < 0)) → (x2 ≤ 12) → stdI x1)
    (e_4 : (stdI x1) → (¬ (x2 < 0)) → (x2 ≤ 12) → ¬ (nI (pipS x1.toNatClampNeg) ≤ (I 100 10)) → Ψx "java/lang/IllegalStateException" (mC P O I A J) pl)
    (e_5 : (stdI x1) → (¬ (x2 < 0)) → (x2 ≤ 12) → (nI (pipS x1.toNatClampNeg) ≤ (I 100 10)) → WA X (mC P O I A J) pl (k1 + 1 + 1) (k2 + 6 + 6) 35 [(0, .ref 100), (1, .int x1), (2, .int x2)] [.int x1, .ref 116])
    (e_6 : (stdI x1) → (¬ (x2 < 0)) → (¬ (x2 ≤ 12)) → Ψx "java/lang/IllegalArgumentException" (mC P O I A J) pl) :
    WA X (mC P O I A J) pl k1 k2 0 [(0, .ref 100), (1, .int x1), (2, .int x2)] [] := by
  refine a_iload_n F 1 dX11_within_0 rfl rfl ?_
  refine a_callSX (As := [.int x1]) (st := []) F S T (c_11_checkStand (xl X) T.1 hP I A J hB x1) ml_11_244 sm_yX11_checkStand (by decide) rfl dX11_within_1 (by decide) (by omega) (by omega) (hl_r (hB _ (by decide)) (hl_i (hl_i hl_nil))) hs_nil (by rintro _ _ _ ⟨rfl, rfl, rfl, c⟩ _; exact e_1 c) ?_
  rintro _ _ _ ⟨rfl, rfl, rfl, c_1⟩ _
  show WA X (mC P O I A J) pl (k1 + 1) (k2 + 6) 4 [(0, .ref 100), (1, .int x1), (2, .int x2)] []
  refine a_iload_n F 2 dX11_within_4 rfl rfl ?_
  refine a_if_lt (tgt := 14) F dX11_within_5 (by decide) (fun (c_2 : x2 < 0) => ?_) (fun (c_2 : ¬ (x2 < 0)) => ?_)
  · exact a_throwSW F S T (TW.m153 (List.mem_of_getElem? (i := 15) rfl)) (by decide) dX11_within_14 dX11_within_17 dX11_within_18 dX11_within_21 dX11_within_24 (by omega) (by omega) (by decide) (e_2 c_1 c_2)
  · refine a_iload_n F 2 dX11_within_8 rfl rfl ?_
    refine a_bipush (v := 12) F dX11_within_9 (by decide) ?_
    refine a_icmp_le (tgt := 25) F dX11_within_11 (by decide) (fun (c_3 : x2 ≤ 12) => ?_) (fun (c_3 : ¬ (x2 ≤ 12)) => ?_)
    · refine a_aload_n F 0 dX11_within_25 rfl rfl ?_
      refine a_iload_n F 1 dX11_within_26 rfl rfl ?_
      refine a_callVX (b := 100) (As := [.int x1]) (st := []) (ci := 11) F S T (c_11_checkKnownI (xl X) T.1 hP I A J hB x1 (o_3 c_1 c_2 c_3)) ml_11_247 im_yX11_checkKnown se_yX11_checkKnown (by decide) (by decide) rfl (hB _ (by decide)) rfl rfl dX11_within_27 (by decide) (by omega) (by omega) (hl_r (hB _ (by decide)) (hl_i (hl_i hl_nil))) hs_nil (by rintro _ _ _ ⟨rfl, rfl, rfl, c⟩ _; exact e_4 c_1 c_2 c_3 c) ?_
      rintro _ _ _ ⟨rfl, rfl, rfl, c_4⟩ _
      show WA X (mC P O I A J) pl (k1 + 1 + 1) (k2 + 6 + 6) 30 [(0, .ref 100), (1, .int x1), (2, .int x2)] []
      refine a_aload_n F 0 dX11_within_30 rfl rfl ?_
      refine a_getr (b := 116) F fl_11_70 rfl (hB _ (by decide)) rfl ((hP 100 8 (by decide)).trans rfl) dX11_within_31 ?_
      refine a_iload_n F 1 dX11_within_34 rfl rfl ?_
      exact e_5 c_1 c_2 c_3 c_4
    · exact a_throwSW F S T (TW.m153 (List.mem_of_getElem? (i := 15) rfl)) (by decide) dX11_within_14 dX11_within_17 dX11_within_18 dX11_within_21 dX11_within_24 (by omega) (by omega) (by decide) (e_6 c_1 c_2 c_3)

theorem r_11_within_38b {X : Ctx} {mc ms k1 k2 : Nat} (F : Fx X cX11_within RX11 3 18 mc ms) (S : SXX X) {Ψx : String → HS → List Nat → Prop} (T : Tx X mc ms Ψx) (hk1 : k1 + 6 ≤ mc) (hk2 : k2 + 36 ≤ ms) {P O : Nat → Nat → Option Nat} (hP : laP P) {I A : Nat → Nat → Int32} {J : Nat → Nat → Int64} {pl : List Nat} (hB : inB pl) {x1 x2 : Int32}
    (e_1 : WA X (mC P O I A J) pl k1 k2 51 [(0, .ref 100), (1, .int x1), (2, .int x2)] [.int x2, .int x1, .ref 116, .ref 142]) :
    WA X (mC P O I A J) pl k1 k2 38 [(0, .ref 100), (1, .int x1), (2, .int x2)] [] := by
  refine a_aload_n F 0 dX11_within_38 rfl rfl ?_
  refine a_getr (b := 126) F fl_11_77 rfl (hB _ (by decide)) rfl ((hP 100 9 (by decide)).trans rfl) dX11_within_39 ?_
  refine a_getr (b := 142) F fl_11_252 rfl (hB _ (by decide)) rfl ((hP 126 3 (by decide)).trans rfl) dX11_within_42 ?_
  refine a_aload_n F 0 dX11_within_45 rfl rfl ?_
  refine a_getr (b := 116) F fl_11_70 rfl (hB _ (by decide)) rfl ((hP 100 8 (by decide)).trans rfl) dX11_within_46 ?_
  refine a_iload_n F 1 dX11_within_49 rfl rfl ?_
  refine a_iload_n F 2 dX11_within_50 rfl rfl ?_
  exact e_1

theorem r_11_within_57c {X : Ctx} {mc ms k1 k2 : Nat} (F : Fx X cX11_within RX11 3 18 mc ms) (S : SXX X) {Ψx : String → HS → List Nat → Prop} (T : Tx X mc ms Ψx) (hk1 : k1 + 6 ≤ mc) (hk2 : k2 + 36 ≤ ms) {P O : Nat → Nat → Option Nat} (hP : laP P) {I A : Nat → Nat → Int32} {J : Nat → Nat → Int64} {pl : List Nat} (hB : inB pl) {x1 x2 : Int32}
    (e_1 : WA X (mC P O I A J) pl k1 k2 62 [(0, .ref 100), (1, .int x1), (2, .int x2)] [.int x2, .ref 126]) :
    WA X (mC P O I A J) pl k1 k2 57 [(0, .ref 100), (1, .int x1), (2, .int x2)] [] := by
  refine a_aload_n F 0 dX11_within_57 rfl rfl ?_
  refine a_getr (b := 126) F fl_11_77 rfl (hB _ (by decide)) rfl ((hP 100 9 (by decide)).trans rfl) dX11_within_58 ?_
  refine a_iload_n F 2 dX11_within_61 rfl rfl ?_
  exact e_1

theorem r_11_within_65d {X : Ctx} {mc ms k1 k2 : Nat} (F : Fx X cX11_within RX11 3 18 mc ms) (S : SXX X) {Ψx : String → HS → List Nat → Prop} (T : Tx X mc ms Ψx) (hk1 : k1 + 6 ≤ mc) (hk2 : k2 + 36 ≤ ms) {Φ : Option Value → HS → List Nat → Prop} (E : Ex X (some .int) mc ms Φ) {P O : Nat → Nat → Option Nat} (hP : laP P) {I A : Nat → Nat → Int32} {J : Nat → Nat → Int64} {pl : List Nat} (hB : inB pl) {x1 x2 : Int32}
    (e_1 : Φ (some (.int (I 122 1))) (mC P O I A J) pl) :
    WA X (mC P O I A J) pl k1 k2 65 [(0, .ref 100), (1, .int x1), (2, .int x2)] [] := by
  refine a_aload_n F 0 dX11_within_65 rfl rfl ?_
  refine a_getr (b := 122) F fl_11_16 rfl (hB _ (by decide)) rfl ((hP 100 1 (by decide)).trans rfl) dX11_within_66 ?_
  refine a_geti F fl_11_84 rfl (hB _ (by decide)) rfl dX11_within_69 ?_
  exact a_iret F E dX11_within_72 (by omega) (by omega) (e_1)

set_option maxRecDepth 10000 in
theorem c_11_within (l : Launch) (hst : l.stackTraces = false) {P O : Nat → Nat → Option Nat} (hP : laP P) (I A : Nat → Nat → Int32) (J : Nat → Nat → Int64) {pl : List Nat} (hB : inB pl) (x k : Int32) (hF : laF P) (hS : shI I) (hO : shO O pl) (ht : rkT (A 118)) (hC : clC P O pl) (hT : pwT J) (hsd : sdI O J) (hdg : digW (J 141) 6) : ConX l 18 yX11_within cX11_within 3 (some .int) [.ref 100, .int x, .int k] (mC P O I A J) pl (10 + gN (stdI x ∧ (0 ≤ k ∧ k ≤ 12) ∧ nI (pipS x.toNatClampNeg) ≤ I 100 10) (2 * ndF O x.toNatClampNeg)) (90 + gN (stdI x ∧ (0 ≤ k ∧ k ≤ 12) ∧ nI (pipS x.toNatClampNeg) ≤ I 100 10) (1153 * ndF O x.toNatClampNeg)) (fun r σ' pl' => stdI x ∧ (0 ≤ k ∧ k ≤ 12) ∧ nI (pipS x.toNatClampNeg) ≤ I 100 10 ∧ ∃ P1 O1 I1 J1, woQ P O I A J pl x.toNatClampNeg none (mC P1 O1 I1 A J1) pl' ∧ pgC P1 O1 I1 A J1 pl' (wN k.toNatClampNeg x.toNatClampNeg) k.toNatClampNeg r σ' pl') (fun E σ' pl' => σ' = mC P O I A J ∧ pl = pl' ∧ ((E = "java/lang/IllegalArgumentException" ∧ ¬ (stdI x ∧ (0 ≤ k ∧ k ≤ 12))) ∨ (E = "java/lang/IllegalStateException" ∧ (stdI x ∧ (0 ≤ k ∧ k ≤ 12)) ∧ ¬ nI (pipS x.toNatClampNeg) ≤ I 100 10))) := by
  refine ConX.of hst (by decide) (Nat.le_of_ble_eq_true rfl) (fun X hX9 hn9 F E S T => ?_)
  have key : (0 ≤ k ∧ k ≤ 12) → ∃ n, n ≤ 12 ∧ k = nI n := fun h => nI_of2 (x := k) (M := 12) (n := 12) rfl (by grind) h.2
  refine r_11_within_0 F S T (by omega) (by omega) hP hB (fun h => ⟨rfl, rfl, Or.inl ⟨rfl, fun z => h z.1⟩⟩) (fun h1 h => ⟨rfl, rfl, Or.inl ⟨rfl, fun z => by grind⟩⟩) (fun h _ _ => h) (fun h1 h3 h4 h2 => ⟨rfl, rfl, Or.inr ⟨rfl, ⟨h1, by grind⟩, h2⟩⟩) (fun h1 h3' h3'' h2 => ?_) (fun h1 h3 h4 => ⟨rfl, rfl, Or.inl ⟨rfl, fun z => by grind⟩⟩)
  have h3 : 0 ≤ k ∧ k ≤ 12 := by grind
  obtain ⟨s, hs, rfl⟩ := std_of h1
  have hs2 : s < 2 ^ 31 := Nat.lt_trans hs.1 (by decide)
  have es : (nI s).toNatClampNeg = s := nI_clamp hs2
  rw [gN_t ⟨h1, h3, h2⟩, gN_t ⟨h1, h3, h2⟩] at F E T
  rw [es] at F E T h2
  have hwk := wk_nd hsd hs
  rw [← hwk] at F E T
  refine a_callVS (b := 116) (As := [.int (nI s)]) (st := []) (ci := 8) F S.1 (c_8_workOut (xl X) hP I A J hB s hF hS hO hs ht hC hT hsd) ml_11_250 im_yX8_workOut se_yX8_workOut (by decide) (by decide) rfl (hB _ (by decide)) rfl rfl dX11_within_35 (by decide) (by omega) (by omega) (hl_r (hB _ (by decide)) (hl_i (hl_i hl_nil))) hs_nil ?_
  rintro r1 σ1 pl1 ⟨rfl, P1, O1, I1, J1, rfl, hg, hsd1, hdn, hfr⟩ _
  have hP1 := hg.la hP
  have hB1 := hg.b hB
  obtain ⟨n, hn, rfl⟩ := key h3
  have en : (nI n).toNatClampNeg = n := nI_clamp (by omega)
  refine r_11_within_38b F S T (by omega) (by omega) hP1 hB1 ?_
  refine a_callV (b := 116) (As := [.int (nI s), .int (nI n)]) (st := [.ref 142]) (ci := 8) F (c_8_chances (xl X) hP1 I1 A J1 hB1 s n hg.2.2.2.1 hs hn ht) ml_11_268 im_yX8_chances se_yX8_chances (by decide) (by decide) rfl (hB1 _ (by decide)) rfl rfl dX11_within_51 (by decide) (by omega) (by omega) (hl_r (hB1 _ (by decide)) (hl_i (hl_i hl_nil))) (hs_r (hB1 _ (by decide)) hs_nil) ?_
  rintro _ _ _ ⟨rfl, rfl, rfl⟩ _
  rw [ch_w hdn hn]
  refine a_callV (b := 142) (As := [.long (lN (wN n s))]) (st := []) (ci := 10) F (c_10_set (xl X) hP1 I1 A J1 hB1 142 rfl (hB1 _ (by decide)) (hB1 _ (by decide)) (wN n s) (wN_63 hs hn)) ml_11_272 im_yX10_set se_yX10_set (by decide) (by decide) rfl (hB1 _ (by decide)) rfl rfl dX11_within_54 (by decide) (by omega) (by omega) (hl_r (hB1 _ (by decide)) (hl_i (hl_i hl_nil))) hs_nil ?_
  rintro _ _ _ ⟨rfl, rfl, rfl⟩ _
  have hJ2 : ∀ q, q ≠ 143 → q ≠ 147 → q ≠ 149 → up1 J1 (142 + 1) (putW (J1 (142 + 1)) 6 (wN n s)) q = J1 q := fun q h _ _ => up1_p h
  have hd2 : digW (up1 J1 (142 + 1) (putW (J1 (142 + 1)) 6 (wN n s)) 143) 6 := by rw [show (143 : Nat) = 142 + 1 from rfl, up1_s]; exact pw_dig
  have hv2 : valW (up1 J1 (142 + 1) (putW (J1 (142 + 1)) 6 (wN n s)) 143) 6 = wN n s := by rw [show (143 : Nat) = 142 + 1 from rfl, up1_s, pw_val 6 (Nat.le_refl _), Nat.mod_eq_of_lt (Nat.lt_trans (wN_63 hs hn) (by decide))]
  generalize up1 J1 (142 + 1) (putW (J1 (142 + 1)) 6 (wN n s)) = J2 at hJ2 hd2 hv2
  have hd4 : digW (J2 141) 6 := by rw [hJ2 141 (by decide) (by decide) (by decide), hg.2.2.2.2.2.2.2.1 141 (by decide) (by decide) (by decide)]; exact hdg
  refine r_11_within_57c F S T (by omega) (by omega) hP1 hB1 ?_
  refine a_callV (b := 126) (As := [.int (nI n)]) (st := []) (ci := 4) F (c_4_print (xl X) hP1 I1 A J2 hB1 n (by omega) hd2 hd4) ml_11_260 im_yX4_print se_yX4_print (by decide) (by decide) rfl (hB1 _ (by decide)) rfl rfl dX11_within_62 (by decide) (by omega) (by omega) (hl_r (hB1 _ (by decide)) (hl_i (hl_i hl_nil))) hs_nil ?_
  intro r3 σ3 pl3 hpr _
  have hpr' := hpr
  obtain ⟨I3, A3, J3, len, txt, rfl, rfl, rfl, hI3, hlen, hrest⟩ := hpr
  refine r_11_within_65d F S T (by omega) (by omega) E hP1 hB1 ?_
  rw [hv2] at hpr'
  refine ⟨h1, h3, h2, P1, O1, I1, J1, ⟨rfl, P1, O1, I1, J1, rfl, hg, hsd1, hdn, hfr⟩, J2, I3, A3, J3, len, hJ2, rfl, rfl, by rw [hlen], ?_, hlen⟩
  rw [en]; exact hpr'
