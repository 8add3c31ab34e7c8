def undC (I : Nat → Nat → Int32) : Prop := ¬ I 114 12 = 0 ∧ ¬ I 114 12 = 6
def dueC (I : Nat → Nat → Int32) (a b : Int32) : Prop := I 114 12 = 3 ∧ (if a < b then b else a) = I 114 10 ∧ (if b < a then b else a) = I 114 11
def dblC (I : Nat → Nat → Int32) (a : Int32) : Prop := I 114 12 = 2 ∧ (I 114 2 = -1 ∨ I 114 2 = a) ∧ ¬ 64 ≤ I 114 13 ∧ I 114 3 = 0
def tellC (I A : Nat → Nat → Int32) (w : Int32) : Int32 := if w = 0 then I 114 12 else if w = 1 then A 115 0 else if w = 2 then A 115 1 else if w = 3 then I 114 13 else if w = 4 then I 114 2 else if w = 5 then (if I 114 3 = 0 then 0 else 1) else if w = 6 then I 114 6 else if w = 7 then I 114 7 else if w = 8 then I 114 8 else if w = 9 then I 114 9 else if w = 10 then I 114 10 else I 114 11
def openI (I : Nat → Nat → Int32) (n : Int32) : Nat → Nat → Int32 := up2 (up2 (up2 (up2 (up2 (up2 (up2 I 114 1 n) 114 6 0) 114 7 0) 114 8 0) 114 9 (-1)) 114 4 0) 114 5 0
def openA (A : Nat → Nat → Int32) : Nat → Nat → Int32 := up1 A 115 (upd (upd (A 115) 0 0) 1 0)
def diceI (I : Nat → Nat → Int32) (a b : Int32) : Nat → Nat → Int32 := up2 (up2 I 114 10 (if a < b then b else a)) 114 11 (if b < a then b else a)
def ogI (I : Nat → Nat → Int32) : Nat → Nat → Int32 := diceI (up2 (up2 (up2 (up2 (up2 (up2 I 114 12 1) 114 13 1) 114 2 (-1)) 114 3 (I 114 4)) 114 4 0) 114 6 (I 114 6 + 1)) 0 0
def tdI (I : Nat → Nat → Int32) (a b : Int32) : Nat → Nat → Int32 := up2 (diceI (up2 I 114 7 (I 114 7 + 1)) a b) 114 12 3
def eBI (I : Nat → Nat → Int32) (w v sc : Int32) : Nat → Nat → Int32 := up2 (up2 (up2 I 114 8 v) 114 9 w) 114 12 (if I 114 1 ≤ 0 then 5 else if sc < I 114 1 then 5 else 6)
def eCI (I : Nat → Nat → Int32) (w v sc : Int32) : Nat → Nat → Int32 := if ¬ I 114 1 < 2 ∧ sc = I 114 1 - 1 ∧ I 114 5 = 0 then up2 (up2 (eBI I w v sc) 114 4 1) 114 5 1 else eBI I w v sc
def eCA (A : Nat → Nat → Int32) (w v : Int32) : Nat → Nat → Int32 := up1 A 115 (upd (A 115) w.toNatClampNeg (A 115 w.toNatClampNeg + v))

theorem r_2_isUnderWay_0 {X : Ctx} (F : Fx X cX2_isUnderWay RX2 1 1 0 0) {Φ : Option Value → HS → List Nat → Prop} (E : Ex X (some .boolean) 0 0 Φ) {P O : Nat → Nat → Option Nat} (hP : laP P) {I A : Nat → Nat → Int32} {J : Nat → Nat → Int64} {pl : List Nat} (hB : inB pl)
    (e_1 : ((I 114 12) = 0) → Φ (some (.int 0)) (mC P O I A J) pl)
    (e_2 : (¬ ((I 114 12) = 0)) → ((I 114 12) = 6) → Φ (some (.int 0)) (mC P O I A J) pl)
    (e_3 : (¬ ((I 114 12) = 0)) → (¬ ((I 114 12) = 6)) → Φ (some (.int 1)) (mC P O I A J) pl) :
    WA X (mC P O I A J) pl 0 0 0 [(0, .ref 114)] [] := by
  refine a_aload_n F 0 dX2_isUnderWay_0 rfl rfl ?_
  refine a_geti F fl_2_25 rfl (hB _ (by decide)) rfl dX2_isUnderWay_1 ?_
  refine a_if_eq (tgt := 20) F dX2_isUnderWay_4 (by decide) (fun (c_1 : (I 114 12) = 0) => ?_) (fun (c_1 : ¬ ((I 114 12) = 0)) => ?_)
  · refine a_iconst (v := 0) F dX2_isUnderWay_20 (by decide) ?_
    exact a_zret F E (by decide) dX2_isUnderWay_21 (Nat.le_refl 0) (Nat.le_refl 0) (e_1 c_1)
  · refine a_aload_n F 0 dX2_isUnderWay_7 rfl rfl ?_
    refine a_geti F fl_2_25 rfl (hB _ (by decide)) rfl dX2_isUnderWay_8 ?_
    refine a_bipush (v := 6) F dX2_isUnderWay_11 (by decide) ?_
    refine a_icmp_eq (tgt := 20) F dX2_isUnderWay_13 (by decide) (fun (c_2 : (I 114 12) = 6) => ?_) (fun (c_2 : ¬ ((I 114 12) = 6)) => ?_)
    · refine a_iconst (v := 0) F dX2_isUnderWay_20 (by decide) ?_
      exact a_zret F E (by decide) dX2_isUnderWay_21 (Nat.le_refl 0) (Nat.le_refl 0) (e_2 c_1 c_2)
    · refine a_iconst (v := 1) F dX2_isUnderWay_16 (by decide) ?_
      refine a_goto (tgt := 21) F dX2_isUnderWay_17 (by decide) ?_
      exact a_zret F E (by decide) dX2_isUnderWay_21 (Nat.le_refl 0) (Nat.le_refl 0) (e_3 c_1 c_2)

set_option maxRecDepth 10000 in
theorem c_2_isUnderWay (l : Launch) {P O : Nat → Nat → Option Nat} (hP : laP P) (I A : Nat → Nat → Int32) (J : Nat → Nat → Int64) {pl : List Nat} (hB : inB pl) : Con l 1 yX2_isUnderWay cX2_isUnderWay 1 (some .boolean) [.ref 114] (mC P O I A J) pl 0 0 (PC (some (.int (@ite Int32 (undC I) (Classical.propDecidable _) 1 0))) P O I A J pl) := by
  refine Con.of (by decide) (Nat.le_of_ble_eq_true rfl) (fun X hX9 hn9 F E => ?_)
  refine r_2_isUnderWay_0 F E hP hB ?_ ?_ ?_ <;> (clear F E hn9 hX9; (try clear X); intros <;> first | (simp_all [PC, undC]; done) | (simp_all [PC, undC]; grind))

theorem r_2_open_0 {X : Ctx} (F : Fx X cX2_open RX2 2 1 0 0) {Φ : Option Value → HS → List Nat → Prop} (E : Ex X none 0 0 Φ) {P O : Nat → Nat → Option Nat} (hP : laP P) {I A : Nat → Nat → Int32} {J : Nat → Nat → Int64} {pl : List Nat} (hB : inB pl) {x1 : Int32}
    (o_1 : vp_in 0 2)
    (o_2 : vp_in 1 2)
    (e_3 : Φ none (mC P O (up2 (up2 (up2 (up2 (up2 (up2 (up2 I 114 1 x1) 114 6 0) 114 7 0) 114 8 0) 114 9 (-1)) 114 4 0) 114 5 0) (up1 (up1 A 115 (upd (A 115) 0 0)) 115 (upd (upd (A 115) 0 0) 1 0)) J) pl) :
    WA X (mC P O I A J) pl 0 0 0 [(0, .ref 114), (1, .int x1)] [] := by
  refine a_aload_n F 0 dX2_open_0 rfl rfl ?_
  refine a_iload_n F 1 dX2_open_1 rfl rfl ?_
  refine a_puti F fl_2_28 rfl rfl rfl rfl (hB _ (by decide)) rfl dX2_open_2 ?_
  refine a_aload_n F 0 dX2_open_5 rfl rfl ?_
  refine a_getr (b := 115) F fl_2_9 rfl (hB _ (by decide)) rfl ((hP 114 0 (by decide)).trans rfl) dX2_open_6 ?_
  refine a_iconst (v := 0) F dX2_open_9 (by decide) ?_
  refine a_iconst (v := 0) F dX2_open_10 (by decide) ?_
  refine a_iast F (hB _ (by decide)) rfl (o_1) dX2_open_11 ?_
  refine a_aload_n F 0 dX2_open_12 rfl rfl ?_
  refine a_getr (b := 115) F fl_2_9 rfl (hB _ (by decide)) rfl ((hP 114 0 (by decide)).trans rfl) dX2_open_13 ?_
  refine a_iconst (v := 1) F dX2_open_16 (by decide) ?_
  refine a_iconst (v := 0) F dX2_open_17 (by decide) ?_
  refine a_iast F (hB _ (by decide)) rfl (o_2) dX2_open_18 ?_
  refine a_aload_n F 0 dX2_open_19 rfl rfl ?_
  refine a_iconst (v := 0) F dX2_open_20 (by decide) ?_
  refine a_puti F fl_2_31 rfl rfl rfl rfl (hB _ (by decide)) rfl dX2_open_21 ?_
  refine a_aload_n F 0 dX2_open_24 rfl rfl ?_
  refine a_iconst (v := 0) F dX2_open_25 (by decide) ?_
  refine a_puti F fl_2_34 rfl rfl rfl rfl (hB _ (by decide)) rfl dX2_open_26 ?_
  refine a_aload_n F 0 dX2_open_29 rfl rfl ?_
  refine a_iconst (v := 0) F dX2_open_30 (by decide) ?_
  refine a_puti F fl_2_37 rfl rfl rfl rfl (hB _ (by decide)) rfl dX2_open_31 ?_
  refine a_aload_n F 0 dX2_open_34 rfl rfl ?_
  refine a_iconst (v := (-1)) F dX2_open_35 (by decide) ?_
  refine a_puti F fl_2_19 rfl rfl rfl rfl (hB _ (by decide)) rfl dX2_open_36 ?_
  refine a_aload_n F 0 dX2_open_39 rfl rfl ?_
  refine a_iconst (v := 0) F dX2_open_40 (by decide) ?_
  refine a_puti F fl_2_40 rfl rfl (by decide +kernel) (by decide +kernel) (hB _ (by decide)) rfl dX2_open_41 ?_
  refine a_aload_n F 0 dX2_open_44 rfl rfl ?_
  refine a_iconst (v := 0) F dX2_open_45 (by decide) ?_
  refine a_puti F fl_2_44 rfl rfl (by decide +kernel) (by decide +kernel) (hB _ (by decide)) rfl dX2_open_46 ?_
  exact a_vret F E dX2_open_49 (Nat.le_refl 0) (Nat.le_refl 0) (e_3)

set_option maxRecDepth 10000 in
theorem c_2_open (l : Launch) {P O : Nat → Nat → Option Nat} (hP : laP P) (I A : Nat → Nat → Int32) (J : Nat → Nat → Int64) {pl : List Nat} (hB : inB pl) (n : Int32) : Con l 1 yX2_open cX2_open 2 none [.ref 114, .int n] (mC P O I A J) pl 0 0 (PC none P O (openI I n) (openA A) J pl) := by
  refine Con.of (by decide) (Nat.le_of_ble_eq_true rfl) (fun X hX9 hn9 F E => ?_)
  refine r_2_open_0 F E hP hB ?_ ?_ ?_ <;> (clear F E hn9 hX9; (try clear X); first | exact vp_in_nI (n := 0) (by omega) (by omega) | exact vp_in_nI (n := 1) (by omega) (by omega) | exact ⟨rfl, by rw [up1_up1]; rfl, rfl⟩)

theorem r_2_setDice_0 {X : Ctx} (F : Fx X cX2_setDice RX2 3 2 0 0) {Φ : Option Value → HS → List Nat → Prop} (E : Ex X none 0 0 Φ) {P O : Nat → Nat → Option Nat} (hP : laP P) {I A : Nat → Nat → Int32} {J : Nat → Nat → Int64} {pl : List Nat} (hB : inB pl) {x1 x2 : Int32}
    (e_1 : Φ none (mC P O (up2 (up2 I 114 10 (if x1 < x2 then x2 else x1)) 114 11 (if x2 < x1 then x2 else x1)) A J) pl) :
    WA X (mC P O I A J) pl 0 0 0 [(0, .ref 114), (1, .int x1), (2, .int x2)] [] := by
  refine a_aload_n F 0 dX2_setDice_0 rfl rfl ?_
  refine a_iload_n F 1 dX2_setDice_1 rfl rfl ?_
  refine a_iload_n F 2 dX2_setDice_2 rfl rfl ?_
  refine a_mmax F mxl_2_54 (by decide) (Nat.zero_le _) (Nat.zero_le _) (Nat.le_of_ble_eq_true rfl) dX2_setDice_3 ?_
  refine a_puti F fl_2_60 rfl rfl rfl rfl (hB _ (by decide)) rfl dX2_setDice_6 ?_
  refine a_aload_n F 0 dX2_setDice_9 rfl rfl ?_
  refine a_iload_n F 1 dX2_setDice_10 rfl rfl ?_
  refine a_iload_n F 2 dX2_setDice_11 rfl rfl ?_
  refine a_mmin F mnl_2_63 (by decide) (Nat.zero_le _) (Nat.zero_le _) (Nat.le_of_ble_eq_true rfl) dX2_setDice_12 ?_
  refine a_puti F fl_2_66 rfl rfl rfl rfl (hB _ (by decide)) rfl dX2_setDice_15 ?_
  exact a_vret F E dX2_setDice_18 (Nat.le_refl 0) (Nat.le_refl 0) (e_1)

set_option maxRecDepth 10000 in
theorem c_2_setDice (l : Launch) {P O : Nat → Nat → Option Nat} (hP : laP P) (I A : Nat → Nat → Int32) (J : Nat → Nat → Int64) {pl : List Nat} (hB : inB pl) (a b : Int32) : Con l 2 yX2_setDice cX2_setDice 3 none [.ref 114, .int a, .int b] (mC P O I A J) pl 0 0 (PC none P O (diceI I a b) A J pl) := by
  refine Con.of (by decide) (Nat.le_of_ble_eq_true rfl) (fun X hX9 hn9 F E => ?_)
  refine r_2_setDice_0 F E hP hB ?_ <;> (clear F E hn9 hX9; (try clear X); exact ⟨rfl, rfl, rfl⟩)

theorem r_2_openGame_0 {X : Ctx} (F : Fx X cX2_openGame RX2 1 3 0 0) {Φ : Option Value → HS → List Nat → Prop} (E : Ex X none 0 0 Φ) {P O : Nat → Nat → Option Nat} (hP : laP P) {I A : Nat → Nat → Int32} {J : Nat → Nat → Int64} {pl : List Nat} (hB : inB pl)
    (o_1 : (I 114 4) = 0 ∨ (I 114 4) = 1)
    (e_2 : Φ none (mC P O (diceI (up2 (up2 (up2 (up2 (up2 (up2 I 114 12 1) 114 13 1) 114 2 (-1)) 114 3 (I 114 4)) 114 4 0) 114 6 ((I 114 6) + 1)) (0 : Int32) (0 : Int32)) A J) pl) :
    WA X (mC P O I A J) pl 0 0 0 [(0, .ref 114)] [] := by
  refine a_aload_n F 0 dX2_openGame_0 rfl rfl ?_
  refine a_iconst (v := 1) F dX2_openGame_1 (by decide) ?_
  refine a_puti F fl_2_25 rfl rfl rfl rfl (hB _ (by decide)) rfl dX2_openGame_2 ?_
  refine a_aload_n F 0 dX2_openGame_5 rfl rfl ?_
  refine a_iconst (v := 1) F dX2_openGame_6 (by decide) ?_
  refine a_puti F fl_2_22 rfl rfl rfl rfl (hB _ (by decide)) rfl dX2_openGame_7 ?_
  refine a_aload_n F 0 dX2_openGame_10 rfl rfl ?_
  refine a_iconst (v := (-1)) F dX2_openGame_11 (by decide) ?_
  refine a_puti F fl_2_15 rfl rfl rfl rfl (hB _ (by decide)) rfl dX2_openGame_12 ?_
  refine a_aload_n F 0 dX2_openGame_15 rfl rfl ?_
  refine a_aload_n F 0 dX2_openGame_16 rfl rfl ?_
  refine a_geti F fl_2_40 rfl (hB _ (by decide)) rfl dX2_openGame_17 ?_
  refine a_puti F fl_2_47 rfl rfl (bz_n (o_1)).1 (bz_n (o_1)).2 (hB _ (by decide)) rfl dX2_openGame_20 ?_
  refine a_aload_n F 0 dX2_openGame_23 rfl rfl ?_
  refine a_iconst (v := 0) F dX2_openGame_24 (by decide) ?_
  refine a_puti F fl_2_40 rfl rfl (by decide +kernel) (by decide +kernel) (hB _ (by decide)) rfl dX2_openGame_25 ?_
  refine a_aload_n F 0 dX2_openGame_28 rfl rfl ?_
  refine a_dup F dX2_openGame_29 rfl ?_
  refine a_geti F fl_2_31 rfl (hB _ (by decide)) rfl dX2_openGame_30 ?_
  refine a_iconst (v := 1) F dX2_openGame_33 (by decide) ?_
  refine a_iadd F dX2_openGame_34 ?_
  refine a_puti F fl_2_31 rfl rfl rfl rfl (hB _ (by decide)) rfl dX2_openGame_35 ?_
  refine a_aload_n F 0 dX2_openGame_38 rfl rfl ?_
  refine a_iconst (v := 0) F dX2_openGame_39 (by decide) ?_
  refine a_iconst (v := 0) F dX2_openGame_40 (by decide) ?_
  refine a_callV (b := 114) (As := [.int 0, .int 0]) (st := []) (ci := 2) F (c_2_setDice (xl X) hP (up2 (up2 (up2 (up2 (up2 (up2 I 114 12 1) 114 13 1) 114 2 (-1)) 114 3 (I 114 4)) 114 4 0) 114 6 ((I 114 6) + 1)) A J hB (0 : Int32) (0 : Int32)) ml_2_50 im_yX2_setDice se_yX2_setDice (by decide) (by decide) rfl (hB _ (by decide)) rfl rfl dX2_openGame_41 (by decide) (Nat.le_refl 0) (Nat.le_refl 0) (hl_r (hB _ (by decide)) hl_nil) hs_nil ?_
  rintro _ _ _ ⟨rfl, rfl, rfl⟩ _
  show WA X (mC P O (diceI (up2 (up2 (up2 (up2 (up2 (up2 I 114 12 1) 114 13 1) 114 2 (-1)) 114 3 (I 114 4)) 114 4 0) 114 6 ((I 114 6) + 1)) (0 : Int32) (0 : Int32)) A J) pl 0 0 44 [(0, .ref 114)] []
  exact a_vret F E dX2_openGame_44 (Nat.le_refl 0) (Nat.le_refl 0) (e_2)

set_option maxRecDepth 10000 in
theorem c_2_openGame (l : Launch) {P O : Nat → Nat → Option Nat} (hP : laP P) (I A : Nat → Nat → Int32) (J : Nat → Nat → Int64) {pl : List Nat} (hB : inB pl) (h : I 114 4 = 0 ∨ I 114 4 = 1) : Con l 3 yX2_openGame cX2_openGame 1 none [.ref 114] (mC P O I A J) pl 0 0 (PC none P O (ogI I) A J pl) := by
  refine Con.of (by decide) (Nat.le_of_ble_eq_true rfl) (fun X hX9 hn9 F E => ?_)
  refine r_2_openGame_0 F E hP hB ?_ ?_ <;> (clear F E hn9 hX9; (try clear X); first | exact h | exact ⟨rfl, rfl, rfl⟩)

theorem r_2_takeDice_0 {X : Ctx} (F : Fx X cX2_takeDice RX2 3 3 0 0) {Φ : Option Value → HS → List Nat → Prop} (E : Ex X none 0 0 Φ) {P O : Nat → Nat → Option Nat} (hP : laP P) {I A : Nat → Nat → Int32} {J : Nat → Nat → Int64} {pl : List Nat} (hB : inB pl) {x1 x2 : Int32}
    (e_1 : Φ none (mC P O (up2 (diceI (up2 I 114 7 ((I 114 7) + 1)) x1 x2) 114 12 3) A J) pl) :
    WA X (mC P O I A J) pl 0 0 0 [(0, .ref 114), (1, .int x1), (2, .int x2)] [] := by
  refine a_aload_n F 0 dX2_takeDice_0 rfl rfl ?_
  refine a_dup F dX2_takeDice_1 rfl ?_
  refine a_geti F fl_2_34 rfl (hB _ (by decide)) rfl dX2_takeDice_2 ?_
  refine a_iconst (v := 1) F dX2_takeDice_5 (by decide) ?_
  refine a_iadd F dX2_takeDice_6 ?_
  refine a_puti F fl_2_34 rfl rfl rfl rfl (hB _ (by decide)) rfl dX2_takeDice_7 ?_
  refine a_aload_n F 0 dX2_takeDice_10 rfl rfl ?_
  refine a_iload_n F 1 dX2_takeDice_11 rfl rfl ?_
  refine a_iload_n F 2 dX2_takeDice_12 rfl rfl ?_
  refine a_callV (b := 114) (As := [.int x1, .int x2]) (st := []) (ci := 2) F (c_2_setDice (xl X) hP (up2 I 114 7 ((I 114 7) + 1)) A J hB x1 x2) ml_2_50 im_yX2_setDice se_yX2_setDice (by decide) (by decide) rfl (hB _ (by decide)) rfl rfl dX2_takeDice_13 (by decide) (Nat.le_refl 0) (Nat.le_refl 0) (hl_r (hB _ (by decide)) (hl_i (hl_i hl_nil))) hs_nil ?_
  rintro _ _ _ ⟨rfl, rfl, rfl⟩ _
  show WA X (mC P O (diceI (up2 I 114 7 ((I 114 7) + 1)) x1 x2) A J) pl 0 0 16 [(0, .ref 114), (1, .int x1), (2, .int x2)] []
  refine a_aload_n F 0 dX2_takeDice_16 rfl rfl ?_
  refine a_iconst (v := 3) F dX2_takeDice_17 (by decide) ?_
  refine a_puti F fl_2_25 rfl rfl rfl rfl (hB _ (by decide)) rfl dX2_takeDice_18 ?_
  exact a_vret F E dX2_takeDice_21 (Nat.le_refl 0) (Nat.le_refl 0) (e_1)

set_option maxRecDepth 10000 in
theorem c_2_takeDice (l : Launch) {P O : Nat → Nat → Option Nat} (hP : laP P) (I A : Nat → Nat → Int32) (J : Nat → Nat → Int64) {pl : List Nat} (hB : inB pl) (a b : Int32) : Con l 3 yX2_takeDice cX2_takeDice 3 none [.ref 114, .int a, .int b] (mC P O I A J) pl 0 0 (PC none P O (tdI I a b) A J pl) := by
  refine Con.of (by decide) (Nat.le_of_ble_eq_true rfl) (fun X hX9 hn9 F E => ?_)
  refine r_2_takeDice_0 F E hP hB ?_ <;> (clear F E hn9 hX9; (try clear X); exact ⟨rfl, rfl, rfl⟩)

theorem r_2_areDue_0 {X : Ctx} (F : Fx X cX2_areDue RX2 3 2 0 0) {Φ : Option Value → HS → List Nat → Prop} (E : Ex X (some .boolean) 0 0 Φ) {P O : Nat → Nat → Option Nat} (hP : laP P) {I A : Nat → Nat → Int32} {J : Nat → Nat → Int64} {pl : List Nat} (hB : inB pl) {x1 x2 : Int32}
    (e_1 : (¬ (I 114 12) = 3) → Φ (some (.int 0)) (mC P O I A J) pl)
    (e_2 : ((I 114 12) = 3) → (¬ (if x1 < x2 then x2 else x1) = (I 114 10)) → Φ (some (.int 0)) (mC P O I A J) pl)
    (e_3 : ((I 114 12) = 3) → ((if x1 < x2 then x2 else x1) = (I 114 10)) → (¬ (if x2 < x1 then x2 else x1) = (I 114 11)) → Φ (some (.int 0)) (mC P O I A J) pl)
    (e_4 : ((I 114 12) = 3) → ((if x1 < x2 then x2 else x1) = (I 114 10)) → ((if x2 < x1 then x2 else x1) = (I 114 11)) → Φ (some (.int 1)) (mC P O I A J) pl) :
    WA X (mC P O I A J) pl 0 0 0 [(0, .ref 114), (1, .int x1), (2, .int x2)] [] := by
  refine a_aload_n F 0 dX2_areDue_0 rfl rfl ?_
  refine a_geti F fl_2_25 rfl (hB _ (by decide)) rfl dX2_areDue_1 ?_
  refine a_iconst (v := 3) F dX2_areDue_4 (by decide) ?_
  refine a_icmp_ne (tgt := 36) F dX2_areDue_5 (by decide) (fun (c_1 : ¬ (I 114 12) = 3) => ?_) (fun (c_1 : (I 114 12) = 3) => ?_)
  · refine a_iconst (v := 0) F dX2_areDue_36 (by decide) ?_
    exact a_zret F E (by decide) dX2_areDue_37 (Nat.le_refl 0) (Nat.le_refl 0) (e_1 c_1)
  · refine a_iload_n F 1 dX2_areDue_8 rfl rfl ?_
    refine a_iload_n F 2 dX2_areDue_9 rfl rfl ?_
    refine a_mmax F mxl_2_54 (by decide) (Nat.zero_le _) (Nat.zero_le _) (by decide) dX2_areDue_10 ?_
    refine a_aload_n F 0 dX2_areDue_13 rfl rfl ?_
    refine a_geti F fl_2_60 rfl (hB _ (by decide)) rfl dX2_areDue_14 ?_
    refine a_icmp_ne (tgt := 36) F dX2_areDue_17 (by decide) (fun (c_2 : ¬ (if x1 < x2 then x2 else x1) = (I 114 10)) => ?_) (fun (c_2 : (if x1 < x2 then x2 else x1) = (I 114 10)) => ?_)
    · refine a_iconst (v := 0) F dX2_areDue_36 (by decide) ?_
      exact a_zret F E (by decide) dX2_areDue_37 (Nat.le_refl 0) (Nat.le_refl 0) (e_2 c_1 c_2)
    · refine a_iload_n F 1 dX2_areDue_20 rfl rfl ?_
      refine a_iload_n F 2 dX2_areDue_21 rfl rfl ?_
      refine a_mmin F mnl_2_63 (by decide) (Nat.zero_le _) (Nat.zero_le _) (by decide) dX2_areDue_22 ?_
      refine a_aload_n F 0 dX2_areDue_25 rfl rfl ?_
      refine a_geti F fl_2_66 rfl (hB _ (by decide)) rfl dX2_areDue_26 ?_
      refine a_icmp_ne (tgt := 36) F dX2_areDue_29 (by decide) (fun (c_3 : ¬ (if x2 < x1 then x2 else x1) = (I 114 11)) => ?_) (fun (c_3 : (if x2 < x1 then x2 else x1) = (I 114 11)) => ?_)
      · refine a_iconst (v := 0) F dX2_areDue_36 (by decide) ?_
        exact a_zret F E (by decide) dX2_areDue_37 (Nat.le_refl 0) (Nat.le_refl 0) (e_3 c_1 c_2 c_3)
      · refine a_iconst (v := 1) F dX2_areDue_32 (by decide) ?_
        refine a_goto (tgt := 37) F dX2_areDue_33 (by decide) ?_
        exact a_zret F E (by decide) dX2_areDue_37 (Nat.le_refl 0) (Nat.le_refl 0) (e_4 c_1 c_2 c_3)

set_option maxRecDepth 10000 in
theorem c_2_areDue (l : Launch) {P O : Nat → Nat → Option Nat} (hP : laP P) (I A : Nat → Nat → Int32) (J : Nat → Nat → Int64) {pl : List Nat} (hB : inB pl) (a b : Int32) : Con l 2 yX2_areDue cX2_areDue 3 (some .boolean) [.ref 114, .int a, .int b] (mC P O I A J) pl 0 0 (PC (some (.int (@ite Int32 (dueC I a b) (Classical.propDecidable _) 1 0))) P O I A J pl) := by
  refine Con.of (by decide) (Nat.le_of_ble_eq_true rfl) (fun X hX9 hn9 F E => ?_)
  refine r_2_areDue_0 F E hP hB ?_ ?_ ?_ ?_ <;> (clear F E hn9 hX9; (try clear X); intros <;> first | (rw [if_pos ⟨by assumption, by assumption, by assumption⟩]; exact ⟨rfl, rfl, rfl⟩) | (rw [if_neg (fun z => by have h1 := z.1; have h2 := z.2.1; have h3 := z.2.2; contradiction)]; exact ⟨rfl, rfl, rfl⟩))

theorem r_2_mayDouble_0 {X : Ctx} (F : Fx X cX2_mayDouble RX2 2 1 0 0) {Φ : Option Value → HS → List Nat → Prop} (E : Ex X (some .boolean) 0 0 Φ) {P O : Nat → Nat → Option Nat} (hP : laP P) {I A : Nat → Nat → Int32} {J : Nat → Nat → Int64} {pl : List Nat} (hB : inB pl) {x1 : Int32}
    (e_1 : (¬ (I 114 12) = 2) → Φ (some (.int 0)) (mC P O I A J) pl)
    (e_2 : ((I 114 12) = 2) → ((I 114 2) = (-1)) → (64 ≤ (I 114 13)) → Φ (some (.int 0)) (mC P O I A J) pl)
    (e_3 : ((I 114 12) = 2) → ((I 114 2) = (-1)) → (¬ (64 ≤ (I 114 13))) → (¬ (I 114 3) = 0) → Φ (some (.int 0)) (mC P O I A J) pl)
    (e_4 : ((I 114 12) = 2) → ((I 114 2) = (-1)) → (¬ (64 ≤ (I 114 13))) → ((I 114 3) = 0) → Φ (some (.int 1)) (mC P O I A J) pl)
    (e_5 : ((I 114 12) = 2) → (¬ ((I 114 2) = (-1))) → (¬ (I 114 2) = x1) → Φ (some (.int 0)) (mC P O I A J) pl)
    (e_6 : ((I 114 12) = 2) → (¬ ((I 114 2) = (-1))) → ((I 114 2) = x1) → (64 ≤ (I 114 13)) → Φ (some (.int 0)) (mC P O I A J) pl)
    (e_7 : ((I 114 12) = 2) → (¬ ((I 114 2) = (-1))) → ((I 114 2) = x1) → (¬ (64 ≤ (I 114 13))) → (¬ (I 114 3) = 0) → Φ (some (.int 0)) (mC P O I A J) pl)
    (e_8 : ((I 114 12) = 2) → (¬ ((I 114 2) = (-1))) → ((I 114 2) = x1) → (¬ (64 ≤ (I 114 13))) → ((I 114 3) = 0) → Φ (some (.int 1)) (mC P O I A J) pl) :
    WA X (mC P O I A J) pl 0 0 0 [(0, .ref 114), (1, .int x1)] [] := by
  refine a_aload_n F 0 dX2_mayDouble_0 rfl rfl ?_
  refine a_geti F fl_2_25 rfl (hB _ (by decide)) rfl dX2_mayDouble_1 ?_
  refine a_iconst (v := 2) F dX2_mayDouble_4 (by decide) ?_
  refine a_icmp_ne (tgt := 44) F dX2_mayDouble_5 (by decide) (fun (c_1 : ¬ (I 114 12) = 2) => ?_) (fun (c_1 : (I 114 12) = 2) => ?_)
  · refine a_iconst (v := 0) F dX2_mayDouble_44 (by decide) ?_
    exact a_zret F E (by decide) dX2_mayDouble_45 (Nat.le_refl 0) (Nat.le_refl 0) (e_1 c_1)
  · refine a_aload_n F 0 dX2_mayDouble_8 rfl rfl ?_
    refine a_geti F fl_2_15 rfl (hB _ (by decide)) rfl dX2_mayDouble_9 ?_
    refine a_iconst (v := (-1)) F dX2_mayDouble_12 (by decide) ?_
    refine a_icmp_eq (tgt := 24) F dX2_mayDouble_13 (by decide) (fun (c_2 : (I 114 2) = (-1)) => ?_) (fun (c_2 : ¬ ((I 114 2) = (-1))) => ?_)
    · refine a_aload_n F 0 dX2_mayDouble_24 rfl rfl ?_
      refine a_geti F fl_2_22 rfl (hB _ (by decide)) rfl dX2_mayDouble_25 ?_
      refine a_bipush (v := 64) F dX2_mayDouble_28 (by decide) ?_
      refine a_icmp_ge (tgt := 44) F dX2_mayDouble_30 (by decide) (fun (c_3 : 64 ≤ (I 114 13)) => ?_) (fun (c_3 : ¬ (64 ≤ (I 114 13))) => ?_)
      · refine a_iconst (v := 0) F dX2_mayDouble_44 (by decide) ?_
        exact a_zret F E (by decide) dX2_mayDouble_45 (Nat.le_refl 0) (Nat.le_refl 0) (e_2 c_1 c_2 c_3)
      · refine a_aload_n F 0 dX2_mayDouble_33 rfl rfl ?_
        refine a_geti F fl_2_47 rfl (hB _ (by decide)) rfl dX2_mayDouble_34 ?_
        refine a_if_ne (tgt := 44) F dX2_mayDouble_37 (by decide) (fun (c_4 : ¬ (I 114 3) = 0) => ?_) (fun (c_4 : (I 114 3) = 0) => ?_)
        · refine a_iconst (v := 0) F dX2_mayDouble_44 (by decide) ?_
          exact a_zret F E (by decide) dX2_mayDouble_45 (Nat.le_refl 0) (Nat.le_refl 0) (e_3 c_1 c_2 c_3 c_4)
        · refine a_iconst (v := 1) F dX2_mayDouble_40 (by decide) ?_
          refine a_goto (tgt := 45) F dX2_mayDouble_41 (by decide) ?_
          exact a_zret F E (by decide) dX2_mayDouble_45 (Nat.le_refl 0) (Nat.le_refl 0) (e_4 c_1 c_2 c_3 c_4)
    · refine a_aload_n F 0 dX2_mayDouble_16 rfl rfl ?_
      refine a_geti F fl_2_15 rfl (hB _ (by decide)) rfl dX2_mayDouble_17 ?_
      refine a_iload_n F 1 dX2_mayDouble_20 rfl rfl ?_
      refine a_icmp_ne (tgt := 44) F dX2_mayDouble_21 (by decide) (fun (c_5 : ¬ (I 114 2) = x1) => ?_) (fun (c_5 : (I 114 2) = x1) => ?_)
      · refine a_iconst (v := 0) F dX2_mayDouble_44 (by decide) ?_
        exact a_zret F E (by decide) dX2_mayDouble_45 (Nat.le_refl 0) (Nat.le_refl 0) (e_5 c_1 c_2 c_5)
      · refine a_aload_n F 0 dX2_mayDouble_24 rfl rfl ?_
        refine a_geti F fl_2_22 rfl (hB _ (by decide)) rfl dX2_mayDouble_25 ?_
        refine a_bipush (v := 64) F dX2_mayDouble_28 (by decide) ?_
        refine a_icmp_ge (tgt := 44) F dX2_mayDouble_30 (by decide) (fun (c_6 : 64 ≤ (I 114 13)) => ?_) (fun (c_6 : ¬ (64 ≤ (I 114 13))) => ?_)
        · refine a_iconst (v := 0) F dX2_mayDouble_44 (by decide) ?_
          exact a_zret F E (by decide) dX2_mayDouble_45 (Nat.le_refl 0) (Nat.le_refl 0) (e_6 c_1 c_2 c_5 c_6)
        · refine a_aload_n F 0 dX2_mayDouble_33 rfl rfl ?_
          refine a_geti F fl_2_47 rfl (hB _ (by decide)) rfl dX2_mayDouble_34 ?_
          refine a_if_ne (tgt := 44) F dX2_mayDouble_37 (by decide) (fun (c_7 : ¬ (I 114 3) = 0) => ?_) (fun (c_7 : (I 114 3) = 0) => ?_)
          · refine a_iconst (v := 0) F dX2_mayDouble_44 (by decide) ?_
            exact a_zret F E (by decide) dX2_mayDouble_45 (Nat.le_refl 0) (Nat.le_refl 0) (e_7 c_1 c_2 c_5 c_6 c_7)
          · refine a_iconst (v := 1) F dX2_mayDouble_40 (by decide) ?_
            refine a_goto (tgt := 45) F dX2_mayDouble_41 (by decide) ?_
            exact a_zret F E (by decide) dX2_mayDouble_45 (Nat.le_refl 0) (Nat.le_refl 0) (e_8 c_1 c_2 c_5 c_6 c_7)

set_option maxRecDepth 10000 in
theorem c_2_mayDouble (l : Launch) {P O : Nat → Nat → Option Nat} (hP : laP P) (I A : Nat → Nat → Int32) (J : Nat → Nat → Int64) {pl : List Nat} (hB : inB pl) (a : Int32) : Con l 1 yX2_mayDouble cX2_mayDouble 2 (some .boolean) [.ref 114, .int a] (mC P O I A J) pl 0 0 (PC (some (.int (@ite Int32 (dblC I a) (Classical.propDecidable _) 1 0))) P O I A J pl) := by
  refine Con.of (by decide) (Nat.le_of_ble_eq_true rfl) (fun X hX9 hn9 F E => ?_)
  refine r_2_mayDouble_0 F E hP hB ?_ ?_ ?_ ?_ ?_ ?_ ?_ ?_ <;> (clear F E hn9 hX9; (try clear X); intros <;> first | (simp_all [PC, dblC]; done) | (simp_all [PC, dblC]; grind))

theorem r_2_takeDouble_0 {X : Ctx} (F : Fx X cX2_takeDouble RX2 2 1 0 0) {Φ : Option Value → HS → List Nat → Prop} (E : Ex X none 0 0 Φ) {P O : Nat → Nat → Option Nat} (hP : laP P) {I A : Nat → Nat → Int32} {J : Nat → Nat → Int64} {pl : List Nat} (hB : inB pl) {x1 : Int32}
    (e_1 : Φ none (mC P O (up2 (up2 (up2 I 114 13 (2 * (I 114 13))) 114 2 (1 - x1)) 114 12 2) A J) pl) :
    WA X (mC P O I A J) pl 0 0 0 [(0, .ref 114), (1, .int x1)] [] := by
  refine a_aload_n F 0 dX2_takeDouble_0 rfl rfl ?_
  refine a_iconst (v := 2) F dX2_takeDouble_1 (by decide) ?_
  refine a_aload_n F 0 dX2_takeDouble_2 rfl rfl ?_
  refine a_geti F fl_2_22 rfl (hB _ (by decide)) rfl dX2_takeDouble_3 ?_
  refine a_imul F dX2_takeDouble_6 ?_
  refine a_puti F fl_2_22 rfl rfl rfl rfl (hB _ (by decide)) rfl dX2_takeDouble_7 ?_
  refine a_aload_n F 0 dX2_takeDouble_10 rfl rfl ?_
  refine a_iconst (v := 1) F dX2_takeDouble_11 (by decide) ?_
  refine a_iload_n F 1 dX2_takeDouble_12 rfl rfl ?_
  refine a_isub F dX2_takeDouble_13 ?_
  refine a_puti F fl_2_15 rfl rfl rfl rfl (hB _ (by decide)) rfl dX2_takeDouble_14 ?_
  refine a_aload_n F 0 dX2_takeDouble_17 rfl rfl ?_
  refine a_iconst (v := 2) F dX2_takeDouble_18 (by decide) ?_
  refine a_puti F fl_2_25 rfl rfl rfl rfl (hB _ (by decide)) rfl dX2_takeDouble_19 ?_
  exact a_vret F E dX2_takeDouble_22 (Nat.le_refl 0) (Nat.le_refl 0) (e_1)

set_option maxRecDepth 10000 in
theorem c_2_takeDouble (l : Launch) {P O : Nat → Nat → Option Nat} (hP : laP P) (I A : Nat → Nat → Int32) (J : Nat → Nat → Int64) {pl : List Nat} (hB : inB pl) (a : Int32) : Con l 1 yX2_takeDouble cX2_takeDouble 2 none [.ref 114, .int a] (mC P O I A J) pl 0 0 (PC none P O (up2 (up2 (up2 I 114 13 (2 * I 114 13)) 114 2 (1 - a)) 114 12 2) A J pl) := by
  refine Con.of (by decide) (Nat.le_of_ble_eq_true rfl) (fun X hX9 hn9 F E => ?_)
  refine r_2_takeDouble_0 F E hP hB ?_ <;> (clear F E hn9 hX9; (try clear X); exact ⟨rfl, rfl, rfl⟩)

theorem r_2_end_0 {X : Ctx} (F : Fx X cX2_end RX2 3 1 0 0) {Φ : Option Value → HS → List Nat → Prop} (E : Ex X none 0 0 Φ) {P O : Nat → Nat → Option Nat} (hP : laP P) {I A : Nat → Nat → Int32} {J : Nat → Nat → Int64} {pl : List Nat} (hB : inB pl) {x1 x2 : Int32}
    (o_1 : vp_in x1 2)
    (o_2 : vp_in x1 2)
    (e_3 : ((I 114 1) ≤ 0) → ((I 114 1) < 2) → Φ none (mC P O (up2 (up2 (up2 I 114 8 x2) 114 9 x1) 114 12 5) (up1 A 115 (upd (A 115) x1.toNatClampNeg ((A 115 x1.toNatClampNeg) + x2))) J) pl)
    (o_4 : ((I 114 1) ≤ 0) → (¬ ((I 114 1) < 2)) → vp_in x1 2)
    (e_5 : ((I 114 1) ≤ 0) → (¬ ((I 114 1) < 2)) → (¬ ((upd (A 115) x1.toNatClampNeg ((A 115 x1.toNatClampNeg) + x2)) x1.toNatClampNeg) = ((I 114 1) - 1)) → Φ none (mC P O (up2 (up2 (up2 I 114 8 x2) 114 9 x1) 114 12 5) (up1 A 115 (upd (A 115) x1.toNatClampNeg ((A 115 x1.toNatClampNeg) + x2))) J) pl)
    (e_6 : ((I 114 1) ≤ 0) → (¬ ((I 114 1) < 2)) → (((upd (A 115) x1.toNatClampNeg ((A 115 x1.toNatClampNeg) + x2)) x1.toNatClampNeg) = ((I 114 1) - 1)) → (¬ (I 114 5) = 0) → Φ none (mC P O (up2 (up2 (up2 I 114 8 x2) 114 9 x1) 114 12 5) (up1 A 115 (upd (A 115) x1.toNatClampNeg ((A 115 x1.toNatClampNeg) + x2))) J) pl)
    (e_7 : ((I 114 1) ≤ 0) → (¬ ((I 114 1) < 2)) → (((upd (A 115) x1.toNatClampNeg ((A 115 x1.toNatClampNeg) + x2)) x1.toNatClampNeg) = ((I 114 1) - 1)) → ((I 114 5) = 0) → Φ none (mC P O (up2 (up2 (up2 (up2 (up2 I 114 8 x2) 114 9 x1) 114 12 5) 114 4 1) 114 5 1) (up1 A 115 (upd (A 115) x1.toNatClampNeg ((A 115 x1.toNatClampNeg) + x2))) J) pl)
    (o_8 : (¬ ((I 114 1) ≤ 0)) → vp_in x1 2)
    (e_9 : (¬ ((I 114 1) ≤ 0)) → (((upd (A 115) x1.toNatClampNeg ((A 115 x1.toNatClampNeg) + x2)) x1.toNatClampNeg) < (I 114 1)) → ((I 114 1) < 2) → Φ none (mC P O (up2 (up2 (up2 I 114 8 x2) 114 9 x1) 114 12 5) (up1 A 115 (upd (A 115) x1.toNatClampNeg ((A 115 x1.toNatClampNeg) + x2))) J) pl)
    (o_10 : (¬ ((I 114 1) ≤ 0)) → (((upd (A 115) x1.toNatClampNeg ((A 115 x1.toNatClampNeg) + x2)) x1.toNatClampNeg) < (I 114 1)) → (¬ ((I 114 1) < 2)) → vp_in x1 2)
    (e_11 : (¬ ((I 114 1) ≤ 0)) → (((upd (A 115) x1.toNatClampNeg ((A 115 x1.toNatClampNeg) + x2)) x1.toNatClampNeg) < (I 114 1)) → (¬ ((I 114 1) < 2)) → (¬ ((upd (A 115) x1.toNatClampNeg ((A 115 x1.toNatClampNeg) + x2)) x1.toNatClampNeg) = ((I 114 1) - 1)) → Φ none (mC P O (up2 (up2 (up2 I 114 8 x2) 114 9 x1) 114 12 5) (up1 A 115 (upd (A 115) x1.toNatClampNeg ((A 115 x1.toNatClampNeg) + x2))) J) pl)
    (e_12 : (¬ ((I 114 1) ≤ 0)) → (((upd (A 115) x1.toNatClampNeg ((A 115 x1.toNatClampNeg) + x2)) x1.toNatClampNeg) < (I 114 1)) → (¬ ((I 114 1) < 2)) → (((upd (A 115) x1.toNatClampNeg ((A 115 x1.toNatClampNeg) + x2)) x1.toNatClampNeg) = ((I 114 1) - 1)) → (¬ (I 114 5) = 0) → Φ none (mC P O (up2 (up2 (up2 I 114 8 x2) 114 9 x1) 114 12 5) (up1 A 115 (upd (A 115) x1.toNatClampNeg ((A 115 x1.toNatClampNeg) + x2))) J) pl)
    (e_13 : (¬ ((I 114 1) ≤ 0)) → (((upd (A 115) x1.toNatClampNeg ((A 115 x1.toNatClampNeg) + x2)) x1.toNatClampNeg) < (I 114 1)) → (¬ ((I 114 1) < 2)) → (((upd (A 115) x1.toNatClampNeg ((A 115 x1.toNatClampNeg) + x2)) x1.toNatClampNeg) = ((I 114 1) - 1)) → ((I 114 5) = 0) → Φ none (mC P O (up2 (up2 (up2 (up2 (up2 I 114 8 x2) 114 9 x1) 114 12 5) 114 4 1) 114 5 1) (up1 A 115 (upd (A 115) x1.toNatClampNeg ((A 115 x1.toNatClampNeg) + x2))) J) pl)
    (e_14 : (¬ ((I 114 1) ≤ 0)) → (¬ (((upd (A 115) x1.toNatClampNeg ((A 115 x1.toNatClampNeg) + x2)) x1.toNatClampNeg) < (I 114 1))) → ((I 114 1) < 2) → Φ none (mC P O (up2 (up2 (up2 I 114 8 x2) 114 9 x1) 114 12 6) (up1 A 115 (upd (A 115) x1.toNatClampNeg ((A 115 x1.toNatClampNeg) + x2))) J) pl)
    (o_15 : (¬ ((I 114 1) ≤ 0)) → (¬ (((upd (A 115) x1.toNatClampNeg ((A 115 x1.toNatClampNeg) + x2)) x1.toNatClampNeg) < (I 114 1))) → (¬ ((I 114 1) < 2)) → vp_in x1 2)
    (e_16 : (¬ ((I 114 1) ≤ 0)) → (¬ (((upd (A 115) x1.toNatClampNeg ((A 115 x1.toNatClampNeg) + x2)) x1.toNatClampNeg) < (I 114 1))) → (¬ ((I 114 1) < 2)) → (¬ ((upd (A 115) x1.toNatClampNeg ((A 115 x1.toNatClampNeg) + x2)) x1.toNatClampNeg) = ((I 114 1) - 1)) → Φ none (mC P O (up2 (up2 (up2 I 114 8 x2) 114 9 x1) 114 12 6) (up1 A 115 (upd (A 115) x1.toNatClampNeg ((A 115 x1.toNatClampNeg) + x2))) J) pl)
    (e_17 : (¬ ((I 114 1) ≤ 0)) → (¬ (((upd (A 115) x1.toNatClampNeg ((A 115 x1.toNatClampNeg) + x2)) x1.toNatClampNeg) < (I 114 1))) → (¬ ((I 114 1) < 2)) → (((upd (A 115) x1.toNatClampNeg ((A 115 x1.toNatClampNeg) + x2)) x1.toNatClampNeg) = ((I 114 1) - 1)) → (¬ (I 114 5) = 0) → Φ none (mC P O (up2 (up2 (up2 I 114 8 x2) 114 9 x1) 114 12 6) (up1 A 115 (upd (A 115) x1.toNatClampNeg ((A 115 x1.toNatClampNeg) + x2))) J) pl)
    (e_18 : (¬ ((I 114 1) ≤ 0)) → (¬ (((upd (A 115) x1.toNatClampNeg ((A 115 x1.toNatClampNeg) + x2)) x1.toNatClampNeg) < (I 114 1))) → (¬ ((I 114 1) < 2)) → (((upd (A 115) x1.toNatClampNeg ((A 115 x1.toNatClampNeg) + x2)) x1.toNatClampNeg) = ((I 114 1) - 1)) → ((I 114 5) = 0) → Φ none (mC P O (up2 (up2 (up2 (up2 (up2 I 114 8 x2) 114 9 x1) 114 12 6) 114 4 1) 114 5 1) (up1 A 115 (upd (A 115) x1.toNatClampNeg ((A 115 x1.toNatClampNeg) + x2))) J) pl) :
    WA X (mC P O I A J) pl 0 0 0 [(0, .ref 114), (1, .int x1), (2, .int x2)] [] := by
  refine a_aload_n F 0 dX2_end_0 rfl rfl ?_
  refine a_getr (b := 115) F fl_2_9 rfl (hB _ (by decide)) rfl ((hP 114 0 (by decide)).trans rfl) dX2_end_1 ?_
  refine a_iload_n F 1 dX2_end_4 rfl rfl ?_
  refine a_dup2 F dX2_end_5 rfl rfl ?_
  refine a_iald F (hB _ (by decide)) rfl (o_1) dX2_end_6 ?_
  refine a_iload_n F 2 dX2_end_7 rfl rfl ?_
  refine a_iadd F dX2_end_8 ?_
  refine a_iast F (hB _ (by decide)) rfl (o_2) dX2_end_9 ?_
  refine a_aload_n F 0 dX2_end_10 rfl rfl ?_
  refine a_iload_n F 2 dX2_end_11 rfl rfl ?_
  refine a_puti F fl_2_37 rfl rfl rfl rfl (hB _ (by decide)) rfl dX2_end_12 ?_
  refine a_aload_n F 0 dX2_end_15 rfl rfl ?_
  refine a_iload_n F 1 dX2_end_16 rfl rfl ?_
  refine a_puti F fl_2_19 rfl rfl rfl rfl (hB _ (by decide)) rfl dX2_end_17 ?_
  refine a_aload_n F 0 dX2_end_20 rfl rfl ?_
  refine a_aload_n F 0 dX2_end_21 rfl rfl ?_
  refine a_geti F fl_2_28 rfl (hB _ (by decide)) rfl dX2_end_22 ?_
  refine a_if_le (tgt := 46) F dX2_end_25 (by decide) (fun (c_1 : (I 114 1) ≤ 0) => ?_) (fun (c_1 : ¬ ((I 114 1) ≤ 0)) => ?_)
  · refine a_iconst (v := 5) F dX2_end_46 (by decide) ?_
    refine a_puti F fl_2_25 rfl rfl rfl rfl (hB _ (by decide)) rfl dX2_end_47 ?_
    refine a_aload_n F 0 dX2_end_50 rfl rfl ?_
    refine a_geti F fl_2_28 rfl (hB _ (by decide)) rfl dX2_end_51 ?_
    refine a_iconst (v := 2) F dX2_end_54 (by decide) ?_
    refine a_icmp_lt (tgt := 90) F dX2_end_55 (by decide) (fun (c_2 : (I 114 1) < 2) => ?_) (fun (c_2 : ¬ ((I 114 1) < 2)) => ?_)
    · exact a_vret F E dX2_end_90 (Nat.le_refl 0) (Nat.le_refl 0) (e_3 c_1 c_2)
    · refine a_aload_n F 0 dX2_end_58 rfl rfl ?_
      refine a_getr (b := 115) F fl_2_9 rfl (hB _ (by decide)) rfl ((hP 114 0 (by decide)).trans rfl) dX2_end_59 ?_
      refine a_iload_n F 1 dX2_end_62 rfl rfl ?_
      refine a_iald F (hB _ (by decide)) rfl (o_4 c_1 c_2) dX2_end_63 ?_
      refine a_aload_n F 0 dX2_end_64 rfl rfl ?_
      refine a_geti F fl_2_28 rfl (hB _ (by decide)) rfl dX2_end_65 ?_
      refine a_iconst (v := 1) F dX2_end_68 (by decide) ?_
      refine a_isub F dX2_end_69 ?_
      refine a_icmp_ne (tgt := 90) F dX2_end_70 (by decide) (fun (c_3 : ¬ ((upd (A 115) x1.toNatClampNeg ((A 115 x1.toNatClampNeg) + x2)) x1.toNatClampNeg) = ((I 114 1) - 1)) => ?_) (fun (c_3 : ((upd (A 115) x1.toNatClampNeg ((A 115 x1.toNatClampNeg) + x2)) x1.toNatClampNeg) = ((I 114 1) - 1)) => ?_)
      · exact a_vret F E dX2_end_90 (Nat.le_refl 0) (Nat.le_refl 0) (e_5 c_1 c_2 c_3)
      · refine a_aload_n F 0 dX2_end_73 rfl rfl ?_
        refine a_geti F fl_2_44 rfl (hB _ (by decide)) rfl dX2_end_74 ?_
        refine a_if_ne (tgt := 90) F dX2_end_77 (by decide) (fun (c_4 : ¬ (I 114 5) = 0) => ?_) (fun (c_4 : (I 114 5) = 0) => ?_)
        · exact a_vret F E dX2_end_90 (Nat.le_refl 0) (Nat.le_refl 0) (e_6 c_1 c_2 c_3 c_4)
        · refine a_aload_n F 0 dX2_end_80 rfl rfl ?_
          refine a_iconst (v := 1) F dX2_end_81 (by decide) ?_
          refine a_puti F fl_2_40 rfl rfl (by decide +kernel) (by decide +kernel) (hB _ (by decide)) rfl dX2_end_82 ?_
          refine a_aload_n F 0 dX2_end_85 rfl rfl ?_
          refine a_iconst (v := 1) F dX2_end_86 (by decide) ?_
          refine a_puti F fl_2_44 rfl rfl (by decide +kernel) (by decide +kernel) (hB _ (by decide)) rfl dX2_end_87 ?_
          exact a_vret F E dX2_end_90 (Nat.le_refl 0) (Nat.le_refl 0) (e_7 c_1 c_2 c_3 c_4)
  · refine a_aload_n F 0 dX2_end_28 rfl rfl ?_
    refine a_getr (b := 115) F fl_2_9 rfl (hB _ (by decide)) rfl ((hP 114 0 (by decide)).trans rfl) dX2_end_29 ?_
    refine a_iload_n F 1 dX2_end_32 rfl rfl ?_
    refine a_iald F (hB _ (by decide)) rfl (o_8 c_1) dX2_end_33 ?_
    refine a_aload_n F 0 dX2_end_34 rfl rfl ?_
    refine a_geti F fl_2_28 rfl (hB _ (by decide)) rfl dX2_end_35 ?_
    refine a_icmp_lt (tgt := 46) F dX2_end_38 (by decide) (fun (c_5 : ((upd (A 115) x1.toNatClampNeg ((A 115 x1.toNatClampNeg) + x2)) x1.toNatClampNeg) < (I 114 1)) => ?_) (fun (c_5 : ¬ (((upd (A 115) x1.toNatClampNeg ((A 115 x1.toNatClampNeg) + x2)) x1.toNatClampNeg) < (I 114 1))) => ?_)
    · refine a_iconst (v := 5) F dX2_end_46 (by decide) ?_
      refine a_puti F fl_2_25 rfl rfl rfl rfl (hB _ (by decide)) rfl dX2_end_47 ?_
      refine a_aload_n F 0 dX2_end_50 rfl rfl ?_
      refine a_geti F fl_2_28 rfl (hB _ (by decide)) rfl dX2_end_51 ?_
      refine a_iconst (v := 2) F dX2_end_54 (by decide) ?_
      refine a_icmp_lt (tgt := 90) F dX2_end_55 (by decide) (fun (c_6 : (I 114 1) < 2) => ?_) (fun (c_6 : ¬ ((I 114 1) < 2)) => ?_)
      · exact a_vret F E dX2_end_90 (Nat.le_refl 0) (Nat.le_refl 0) (e_9 c_1 c_5 c_6)
      · refine a_aload_n F 0 dX2_end_58 rfl rfl ?_
        refine a_getr (b := 115) F fl_2_9 rfl (hB _ (by decide)) rfl ((hP 114 0 (by decide)).trans rfl) dX2_end_59 ?_
        refine a_iload_n F 1 dX2_end_62 rfl rfl ?_
        refine a_iald F (hB _ (by decide)) rfl (o_10 c_1 c_5 c_6) dX2_end_63 ?_
        refine a_aload_n F 0 dX2_end_64 rfl rfl ?_
        refine a_geti F fl_2_28 rfl (hB _ (by decide)) rfl dX2_end_65 ?_
        refine a_iconst (v := 1) F dX2_end_68 (by decide) ?_
        refine a_isub F dX2_end_69 ?_
        refine a_icmp_ne (tgt := 90) F dX2_end_70 (by decide) (fun (c_7 : ¬ ((upd (A 115) x1.toNatClampNeg ((A 115 x1.toNatClampNeg) + x2)) x1.toNatClampNeg) = ((I 114 1) - 1)) => ?_) (fun (c_7 : ((upd (A 115) x1.toNatClampNeg ((A 115 x1.toNatClampNeg) + x2)) x1.toNatClampNeg) = ((I 114 1) - 1)) => ?_)
        · exact a_vret F E dX2_end_90 (Nat.le_refl 0) (Nat.le_refl 0) (e_11 c_1 c_5 c_6 c_7)
        · refine a_aload_n F 0 dX2_end_73 rfl rfl ?_
          refine a_geti F fl_2_44 rfl (hB _ (by decide)) rfl dX2_end_74 ?_
          refine a_if_ne (tgt := 90) F dX2_end_77 (by decide) (fun (c_8 : ¬ (I 114 5) = 0) => ?_) (fun (c_8 : (I 114 5) = 0) => ?_)
          · exact a_vret F E dX2_end_90 (Nat.le_refl 0) (Nat.le_refl 0) (e_12 c_1 c_5 c_6 c_7 c_8)
          · refine a_aload_n F 0 dX2_end_80 rfl rfl ?_
            refine a_iconst (v := 1) F dX2_end_81 (by decide) ?_
            refine a_puti F fl_2_40 rfl rfl (by decide +kernel) (by decide +kernel) (hB _ (by decide)) rfl dX2_end_82 ?_
            refine a_aload_n F 0 dX2_end_85 rfl rfl ?_
            refine a_iconst (v := 1) F dX2_end_86 (by decide) ?_
            refine a_puti F fl_2_44 rfl rfl (by decide +kernel) (by decide +kernel) (hB _ (by decide)) rfl dX2_end_87 ?_
            exact a_vret F E dX2_end_90 (Nat.le_refl 0) (Nat.le_refl 0) (e_13 c_1 c_5 c_6 c_7 c_8)
    · refine a_bipush (v := 6) F dX2_end_41 (by decide) ?_
      refine a_goto (tgt := 47) F dX2_end_43 (by decide) ?_
      refine a_puti F fl_2_25 rfl rfl rfl rfl (hB _ (by decide)) rfl dX2_end_47 ?_
      refine a_aload_n F 0 dX2_end_50 rfl rfl ?_
      refine a_geti F fl_2_28 rfl (hB _ (by decide)) rfl dX2_end_51 ?_
      refine a_iconst (v := 2) F dX2_end_54 (by decide) ?_
      refine a_icmp_lt (tgt := 90) F dX2_end_55 (by decide) (fun (c_9 : (I 114 1) < 2) => ?_) (fun (c_9 : ¬ ((I 114 1) < 2)) => ?_)
      · exact a_vret F E dX2_end_90 (Nat.le_refl 0) (Nat.le_refl 0) (e_14 c_1 c_5 c_9)
      · refine a_aload_n F 0 dX2_end_58 rfl rfl ?_
        refine a_getr (b := 115) F fl_2_9 rfl (hB _ (by decide)) rfl ((hP 114 0 (by decide)).trans rfl) dX2_end_59 ?_
        refine a_iload_n F 1 dX2_end_62 rfl rfl ?_
        refine a_iald F (hB _ (by decide)) rfl (o_15 c_1 c_5 c_9) dX2_end_63 ?_
        refine a_aload_n F 0 dX2_end_64 rfl rfl ?_
        refine a_geti F fl_2_28 rfl (hB _ (by decide)) rfl dX2_end_65 ?_
        refine a_iconst (v := 1) F dX2_end_68 (by decide) ?_
        refine a_isub F dX2_end_69 ?_
        refine a_icmp_ne (tgt := 90) F dX2_end_70 (by decide) (fun (c_10 : ¬ ((upd (A 115) x1.toNatClampNeg ((A 115 x1.toNatClampNeg) + x2)) x1.toNatClampNeg) = ((I 114 1) - 1)) => ?_) (fun (c_10 : ((upd (A 115) x1.toNatClampNeg ((A 115 x1.toNatClampNeg) + x2)) x1.toNatClampNeg) = ((I 114 1) - 1)) => ?_)
        · exact a_vret F E dX2_end_90 (Nat.le_refl 0) (Nat.le_refl 0) (e_16 c_1 c_5 c_9 c_10)
        · refine a_aload_n F 0 dX2_end_73 rfl rfl ?_
          refine a_geti F fl_2_44 rfl (hB _ (by decide)) rfl dX2_end_74 ?_
          refine a_if_ne (tgt := 90) F dX2_end_77 (by decide) (fun (c_11 : ¬ (I 114 5) = 0) => ?_) (fun (c_11 : (I 114 5) = 0) => ?_)
          · exact a_vret F E dX2_end_90 (Nat.le_refl 0) (Nat.le_refl 0) (e_17 c_1 c_5 c_9 c_10 c_11)
          · refine a_aload_n F 0 dX2_end_80 rfl rfl ?_
            refine a_iconst (v := 1) F dX2_end_81 (by decide) ?_
            refine a_puti F fl_2_40 rfl rfl (by decide +kernel) (by decide +kernel) (hB _ (by decide)) rfl dX2_end_82 ?_
            refine a_aload_n F 0 dX2_end_85 rfl rfl ?_
            refine a_iconst (v := 1) F dX2_end_86 (by decide) ?_
            refine a_puti F fl_2_44 rfl rfl (by decide +kernel) (by decide +kernel) (hB _ (by decide)) rfl dX2_end_87 ?_
            exact a_vret F E dX2_end_90 (Nat.le_refl 0) (Nat.le_refl 0) (e_18 c_1 c_5 c_9 c_10 c_11)

set_option maxRecDepth 10000 in
theorem c_2_end (l : Launch) {P O : Nat → Nat → Option Nat} (hP : laP P) (I A : Nat → Nat → Int32) (J : Nat → Nat → Int64) {pl : List Nat} (hB : inB pl) (w v : Int32) (h : vp_in w 2) : Con l 1 yX2_end cX2_end 3 none [.ref 114, .int w, .int v] (mC P O I A J) pl 0 0 (PC none P O (eCI I w v (A 115 w.toNatClampNeg + v)) (eCA A w v) J pl) := by
  refine Con.of (by decide) (Nat.le_of_ble_eq_true rfl) (fun X hX9 hn9 F E => ?_)
  refine r_2_end_0 F E hP hB ?_ ?_ ?_ ?_ ?_ ?_ ?_ ?_ ?_ ?_ ?_ ?_ ?_ ?_ ?_ ?_ ?_ ?_ <;> (clear F E hn9 hX9; (try clear X); first | exact h | (intros; exact h) | ((try rw [upd_in]); intros; refine ⟨rfl, ?_, rfl⟩; unfold eCI eBI eCA; first | (rw [if_pos ⟨by assumption, by assumption, by assumption⟩]; first | rw [if_pos (by assumption)] | (rw [if_neg (by assumption)]; first | rw [if_pos (by assumption)] | rw [if_neg (by assumption)])) | (rw [if_neg (fun z => by have h1 := z.1; have h2 := z.2.1; have h3 := z.2.2; contradiction)]; first | rw [if_pos (by assumption)] | (rw [if_neg (by assumption)]; first | rw [if_pos (by assumption)] | rw [if_neg (by assumption)]))))

theorem r_2_tell_0 {X : Ctx} (F : Fx X cX2_tell RX2 2 1 0 0) {Φ : Option Value → HS → List Nat → Prop} (E : Ex X (some .int) 0 0 Φ) {P O : Nat → Nat → Option Nat} (hP : laP P) {I A : Nat → Nat → Int32} {J : Nat → Nat → Int64} {pl : List Nat} (hB : inB pl) {x1 : Int32}
    (e_1 : (x1 = 0) → Φ (some (.int (I 114 12))) (mC P O I A J) pl)
    (o_2 : (¬ x1 = 0) → (x1 = 1) → vp_in 0 2)
    (e_3 : (¬ x1 = 0) → (x1 = 1) → Φ (some (.int (A 115 0))) (mC P O I A J) pl)
    (o_4 : (¬ x1 = 0) → (¬ x1 = 1) → (x1 = 2) → vp_in 1 2)
    (e_5 : (¬ x1 = 0) → (¬ x1 = 1) → (x1 = 2) → Φ (some (.int (A 115 1))) (mC P O I A J) pl)
    (e_6 : (¬ x1 = 0) → (¬ x1 = 1) → (¬ x1 = 2) → (x1 = 3) → Φ (some (.int (I 114 13))) (mC P O I A J) pl)
    (e_7 : (¬ x1 = 0) → (¬ x1 = 1) → (¬ x1 = 2) → (¬ x1 = 3) → (x1 = 4) → Φ (some (.int (I 114 2))) (mC P O I A J) pl)
    (e_8 : (¬ x1 = 0) → (¬ x1 = 1) → (¬ x1 = 2) → (¬ x1 = 3) → (¬ x1 = 4) → (x1 = 5) → ((I 114 3) = 0) → Φ (some (.int 0)) (mC P O I A J) pl)
    (e_9 : (¬ x1 = 0) → (¬ x1 = 1) → (¬ x1 = 2) → (¬ x1 = 3) → (¬ x1 = 4) → (x1 = 5) → (¬ ((I 114 3) = 0)) → Φ (some (.int 1)) (mC P O I A J) pl)
    (e_10 : (¬ x1 = 0) → (¬ x1 = 1) → (¬ x1 = 2) → (¬ x1 = 3) → (¬ x1 = 4) → (¬ x1 = 5) → (x1 = 6) → Φ (some (.int (I 114 6))) (mC P O I A J) pl)
    (e_11 : (¬ x1 = 0) → (¬ x1 = 1) → (¬ x1 = 2) → (¬ x1 = 3) → (¬ x1 = 4) → (¬ x1 = 5) → (¬ x1 = 6) → (x1 = 7) → Φ (some (.int (I 114 7))) (mC P O I A J) pl)
    (e_12 : (¬ x1 = 0) → (¬ x1 = 1) → (¬ x1 = 2) → (¬ x1 = 3) → (¬ x1 = 4) → (¬ x1 = 5) → (¬ x1 = 6) → (¬ x1 = 7) → (x1 = 8) → Φ (some (.int (I 114 8))) (mC P O I A J) pl)
    (e_13 : (¬ x1 = 0) → (¬ x1 = 1) → (¬ x1 = 2) → (¬ x1 = 3) → (¬ x1 = 4) → (¬ x1 = 5) → (¬ x1 = 6) → (¬ x1 = 7) → (¬ x1 = 8) → (x1 = 9) → Φ (some (.int (I 114 9))) (mC P O I A J) pl)
    (e_14 : (¬ x1 = 0) → (¬ x1 = 1) → (¬ x1 = 2) → (¬ x1 = 3) → (¬ x1 = 4) → (¬ x1 = 5) → (¬ x1 = 6) → (¬ x1 = 7) → (¬ x1 = 8) → (¬ x1 = 9) → (x1 = 10) → Φ (some (.int (I 114 10))) (mC P O I A J) pl)
    (e_15 : (¬ x1 = 0) → (¬ x1 = 1) → (¬ x1 = 2) → (¬ x1 = 3) → (¬ x1 = 4) → (¬ x1 = 5) → (¬ x1 = 6) → (¬ x1 = 7) → (¬ x1 = 8) → (¬ x1 = 9) → (¬ x1 = 10) → Φ (some (.int (I 114 11))) (mC P O I A J) pl) :
    WA X (mC P O I A J) pl 0 0 0 [(0, .ref 114), (1, .int x1)] [] := by
  refine a_iload_n F 1 dX2_tell_0 rfl rfl ?_
  by_cases c_1 : x1 = 0
  · refine a_tableIn (off := 59) (tgt := 60) F dX2_tell_1 (by rw [c_1]; decide) (by rw [c_1]; decide) (by rw [c_1]; rfl) (by decide) ?_
    refine a_aload_n F 0 dX2_tell_60 rfl rfl ?_
    refine a_geti F fl_2_25 rfl (hB _ (by decide)) rfl dX2_tell_61 ?_
    exact a_iret F E dX2_tell_64 (Nat.le_refl 0) (Nat.le_refl 0) (e_1 c_1)
  by_cases c_2 : x1 = 1
  · refine a_tableIn (off := 64) (tgt := 65) F dX2_tell_1 (by rw [c_2]; decide) (by rw [c_2]; decide) (by rw [c_2]; rfl) (by decide) ?_
    refine a_aload_n F 0 dX2_tell_65 rfl rfl ?_
    refine a_getr (b := 115) F fl_2_9 rfl (hB _ (by decide)) rfl ((hP 114 0 (by decide)).trans rfl) dX2_tell_66 ?_
    refine a_iconst (v := 0) F dX2_tell_69 (by decide) ?_
    refine a_iald F (hB _ (by decide)) rfl (o_2 c_1 c_2) dX2_tell_70 ?_
    exact a_iret F E dX2_tell_71 (Nat.le_refl 0) (Nat.le_refl 0) (e_3 c_1 c_2)
  by_cases c_3 : x1 = 2
  · refine a_tableIn (off := 71) (tgt := 72) F dX2_tell_1 (by rw [c_3]; decide) (by rw [c_3]; decide) (by rw [c_3]; rfl) (by decide) ?_
    refine a_aload_n F 0 dX2_tell_72 rfl rfl ?_
    refine a_getr (b := 115) F fl_2_9 rfl (hB _ (by decide)) rfl ((hP 114 0 (by decide)).trans rfl) dX2_tell_73 ?_
    refine a_iconst (v := 1) F dX2_tell_76 (by decide) ?_
    refine a_iald F (hB _ (by decide)) rfl (o_4 c_1 c_2 c_3) dX2_tell_77 ?_
    exact a_iret F E dX2_tell_78 (Nat.le_refl 0) (Nat.le_refl 0) (e_5 c_1 c_2 c_3)
  by_cases c_4 : x1 = 3
  · refine a_tableIn (off := 78) (tgt := 79) F dX2_tell_1 (by rw [c_4]; decide) (by rw [c_4]; decide) (by rw [c_4]; rfl) (by decide) ?_
    refine a_aload_n F 0 dX2_tell_79 rfl rfl ?_
    refine a_geti F fl_2_22 rfl (hB _ (by decide)) rfl dX2_tell_80 ?_
    exact a_iret F E dX2_tell_83 (Nat.le_refl 0) (Nat.le_refl 0) (e_6 c_1 c_2 c_3 c_4)
  by_cases c_5 : x1 = 4
  · refine a_tableIn (off := 83) (tgt := 84) F dX2_tell_1 (by rw [c_5]; decide) (by rw [c_5]; decide) (by rw [c_5]; rfl) (by decide) ?_
    refine a_aload_n F 0 dX2_tell_84 rfl rfl ?_
    refine a_geti F fl_2_15 rfl (hB _ (by decide)) rfl dX2_tell_85 ?_
    exact a_iret F E dX2_tell_88 (Nat.le_refl 0) (Nat.le_refl 0) (e_7 c_1 c_2 c_3 c_4 c_5)
  by_cases c_6 : x1 = 5
  · refine a_tableIn (off := 88) (tgt := 89) F dX2_tell_1 (by rw [c_6]; decide) (by rw [c_6]; decide) (by rw [c_6]; rfl) (by decide) ?_
    refine a_aload_n F 0 dX2_tell_89 rfl rfl ?_
    refine a_geti F fl_2_47 rfl (hB _ (by decide)) rfl dX2_tell_90 ?_
    refine a_if_eq (tgt := 100) F dX2_tell_93 (by decide) (fun (c_7 : (I 114 3) = 0) => ?_) (fun (c_7 : ¬ ((I 114 3) = 0)) => ?_)
    · refine a_iconst (v := 0) F dX2_tell_100 (by decide) ?_
      exact a_iret F E dX2_tell_101 (Nat.le_refl 0) (Nat.le_refl 0) (e_8 c_1 c_2 c_3 c_4 c_5 c_6 c_7)
    · refine a_iconst (v := 1) F dX2_tell_96 (by decide) ?_
      refine a_goto (tgt := 101) F dX2_tell_97 (by decide) ?_
      exact a_iret F E dX2_tell_101 (Nat.le_refl 0) (Nat.le_refl 0) (e_9 c_1 c_2 c_3 c_4 c_5 c_6 c_7)
  by_cases c_8 : x1 = 6
  · refine a_tableIn (off := 101) (tgt := 102) F dX2_tell_1 (by rw [c_8]; decide) (by rw [c_8]; decide) (by rw [c_8]; rfl) (by decide) ?_
    refine a_aload_n F 0 dX2_tell_102 rfl rfl ?_
    refine a_geti F fl_2_31 rfl (hB _ (by decide)) rfl dX2_tell_103 ?_
    exact a_iret F E dX2_tell_106 (Nat.le_refl 0) (Nat.le_refl 0) (e_10 c_1 c_2 c_3 c_4 c_5 c_6 c_8)
  by_cases c_9 : x1 = 7
  · refine a_tableIn (off := 106) (tgt := 107) F dX2_tell_1 (by rw [c_9]; decide) (by rw [c_9]; decide) (by rw [c_9]; rfl) (by decide) ?_
    refine a_aload_n F 0 dX2_tell_107 rfl rfl ?_
    refine a_geti F fl_2_34 rfl (hB _ (by decide)) rfl dX2_tell_108 ?_
    exact a_iret F E dX2_tell_111 (Nat.le_refl 0) (Nat.le_refl 0) (e_11 c_1 c_2 c_3 c_4 c_5 c_6 c_8 c_9)
  by_cases c_10 : x1 = 8
  · refine a_tableIn (off := 111) (tgt := 112) F dX2_tell_1 (by rw [c_10]; decide) (by rw [c_10]; decide) (by rw [c_10]; rfl) (by decide) ?_
    refine a_aload_n F 0 dX2_tell_112 rfl rfl ?_
    refine a_geti F fl_2_37 rfl (hB _ (by decide)) rfl dX2_tell_113 ?_
    exact a_iret F E dX2_tell_116 (Nat.le_refl 0) (Nat.le_refl 0) (e_12 c_1 c_2 c_3 c_4 c_5 c_6 c_8 c_9 c_10)
  by_cases c_11 : x1 = 9
  · refine a_tableIn (off := 116) (tgt := 117) F dX2_tell_1 (by rw [c_11]; decide) (by rw [c_11]; decide) (by rw [c_11]; rfl) (by decide) ?_
    refine a_aload_n F 0 dX2_tell_117 rfl rfl ?_
    refine a_geti F fl_2_19 rfl (hB _ (by decide)) rfl dX2_tell_118 ?_
    exact a_iret F E dX2_tell_121 (Nat.le_refl 0) (Nat.le_refl 0) (e_13 c_1 c_2 c_3 c_4 c_5 c_6 c_8 c_9 c_10 c_11)
  by_cases c_12 : x1 = 10
  · refine a_tableIn (off := 121) (tgt := 122) F dX2_tell_1 (by rw [c_12]; decide) (by rw [c_12]; decide) (by rw [c_12]; rfl) (by decide) ?_
    refine a_aload_n F 0 dX2_tell_122 rfl rfl ?_
    refine a_geti F fl_2_60 rfl (hB _ (by decide)) rfl dX2_tell_123 ?_
    exact a_iret F E dX2_tell_126 (Nat.le_refl 0) (Nat.le_refl 0) (e_14 c_1 c_2 c_3 c_4 c_5 c_6 c_8 c_9 c_10 c_11 c_12)
  refine a_tableOut (tgt := 127) F dX2_tell_1 (by have h0 := lv_neT (a := 0) c_1 (by decide); have h1 := lv_neT (a := 1) c_2 (by decide); have h2 := lv_neT (a := 2) c_3 (by decide); have h3 := lv_neT (a := 3) c_4 (by decide); have h4 := lv_neT (a := 4) c_5 (by decide); have h5 := lv_neT (a := 5) c_6 (by decide); have h6 := lv_neT (a := 6) c_8 (by decide); have h7 := lv_neT (a := 7) c_9 (by decide); have h8 := lv_neT (a := 8) c_10 (by decide); have h9 := lv_neT (a := 9) c_11 (by decide); have h10 := lv_neT (a := 10) c_12 (by decide); omega) (by decide) ?_
  refine a_aload_n F 0 dX2_tell_127 rfl rfl ?_
  refine a_geti F fl_2_66 rfl (hB _ (by decide)) rfl dX2_tell_128 ?_
  exact a_iret F E dX2_tell_131 (Nat.le_refl 0) (Nat.le_refl 0) (e_15 c_1 c_2 c_3 c_4 c_5 c_6 c_8 c_9 c_10 c_11 c_12)

set_option maxRecDepth 10000 in
theorem c_2_tell (l : Launch) {P O : Nat → Nat → Option Nat} (hP : laP P) (I A : Nat → Nat → Int32) (J : Nat → Nat → Int64) {pl : List Nat} (hB : inB pl) (w : Int32) : Con l 1 yX2_tell cX2_tell 2 (some .int) [.ref 114, .int w] (mC P O I A J) pl 0 0 (PC (some (.int (tellC I A w))) P O I A J pl) := by
  refine Con.of (by decide) (Nat.le_of_ble_eq_true rfl) (fun X hX9 hn9 F E => ?_)
  refine r_2_tell_0 F E hP hB ?_ ?_ ?_ ?_ ?_ ?_ ?_ ?_ ?_ ?_ ?_ ?_ ?_ ?_ ?_ <;> (clear F E hn9 hX9; (try clear X); first | (intros; first | exact vp_in_nI (n := 0) (by omega) (by omega) | exact vp_in_nI (n := 1) (by omega) (by omega) | (simp_all [PC, tellC]; done)))

theorem r_2_timesWon_0 {X : Ctx} (F : Fx X cX2_timesWon RX2 2 3 0 0) {Φ : Option Value → HS → List Nat → Prop} (E : Ex X (some .int) 0 0 Φ) {P O : Nat → Nat → Option Nat} (hP : laP P) {I A : Nat → Nat → Int32} {J : Nat → Nat → Int64} {pl : List Nat} (hB : inB pl) {x1 : Int32} {q0 : Nat} (hk_q0 : kC q0 = 0) (hp_q0 : q0 ∈ pl) (hq_q0 : q0 + 1 ∈ pl)
    (o_1 : vp_in (x1 * 26 + (0 : Int32)) 52)
    (e_2 : (((A (q0 + 1)) (x1 * 26 + (0 : Int32)).toNatClampNeg) ≤ 0) → WA X (mC P O I A J) pl 0 0 13 [(0, .ref q0), (1, .int x1)] [.int x1, .ref q0])
    (e_3 : (¬ (((A (q0 + 1)) (x1 * 26 + (0 : Int32)).toNatClampNeg) ≤ 0)) → Φ (some (.int 1)) (mC P O I A J) pl) :
    WA X (mC P O I A J) pl 0 0 0 [(0, .ref q0), (1, .int x1)] [] := by
  refine a_aload_n F 0 dX2_timesWon_0 rfl rfl ?_
  refine a_iload_n F 1 dX2_timesWon_1 rfl rfl ?_
  refine a_iconst (v := 0) F dX2_timesWon_2 (by decide) ?_
  refine a_callV (b := q0) (As := [.int x1, .int 0]) (st := []) (ci := 0) F (c_0_count (xl X) hP I A J hB q0 hk_q0 (hp_q0) (hq_q0) x1 (0 : Int32) (o_1)) ml_2_88 im_yX0_count se_yX0_count (by decide) (by decide) rfl (hp_q0) hk_q0 rfl dX2_timesWon_3 (by decide) (Nat.le_refl 0) (Nat.le_refl 0) (hl_r (hp_q0) (hl_i hl_nil)) hs_nil ?_
  rintro _ _ _ ⟨rfl, rfl, rfl⟩ _
  show WA X (mC P O I A J) pl 0 0 6 [(0, .ref q0), (1, .int x1)] [.int ((A (q0 + 1)) (x1 * 26 + (0 : Int32)).toNatClampNeg)]
  refine a_if_le (tgt := 11) F dX2_timesWon_6 (by decide) (fun (c_1 : ((A (q0 + 1)) (x1 * 26 + (0 : Int32)).toNatClampNeg) ≤ 0) => ?_) (fun (c_1 : ¬ (((A (q0 + 1)) (x1 * 26 + (0 : Int32)).toNatClampNeg) ≤ 0)) => ?_)
  · refine a_aload_n F 0 dX2_timesWon_11 rfl rfl ?_
    refine a_iload_n F 1 dX2_timesWon_12 rfl rfl ?_
    exact e_2 c_1
  · refine a_iconst (v := 1) F dX2_timesWon_9 (by decide) ?_
    exact a_iret F E dX2_timesWon_10 (Nat.le_refl 0) (Nat.le_refl 0) (e_3 c_1)

def twN (B : Nat → Nat) (a : Nat) : Nat := if 0 < B (26 * a) then 1 else if 18 < hiN B (26 * a) 25 then 3 else 2

set_option maxRecDepth 10000 in
theorem c_2_timesWon (l : Launch) {P O : Nat → Nat → Option Nat} (hP : laP P) (I A : Nat → Nat → Int32) (J : Nat → Nat → Int64) {pl : List Nat} (hB : inB pl) (q0 : Nat) (hk_q0 : kC q0 = 0) (hp_q0 : q0 ∈ pl) (hq_q0 : q0 + 1 ∈ pl) (a : Nat) (B : Nat → Nat) (ha : a ≤ 1) (hb : bdR (A (q0 + 1)) 0 B) : Con l 3 yX2_timesWon cX2_timesWon 2 (some .int) [.ref q0, .int (nI a)] (mC P O I A J) pl 0 0 (PC (some (.int (nI (twN B a)))) P O I A J pl) := by
  refine Con.of (by decide) (Nat.le_of_ble_eq_true rfl) (fun X hX9 hn9 F E => ?_)
  have b0 := (hb (26 * a) (by omega)).2
  have i0 : nI a * 26 + (0 : Int32) = nI (26 * a) := ix_a a 0
  have e0 : A (q0 + 1) (nI a * 26 + (0 : Int32)).toNatClampNeg = nI (B (26 * a)) := by rw [i0, nI_clamp (by omega)]; exact bd_at hb (by omega)
  have c0 : A (q0 + 1) (nI a * 26 + (0 : Int32)).toNatClampNeg ≤ 0 ↔ B (26 * a) = 0 := by rw [e0]; exact nI_le0 (by omega)
  refine r_2_timesWon_0 F E hP hB hk_q0 hp_q0 hq_q0 (by rw [i0]; exact vp_in_nI (by omega) (by omega)) (fun z => ?_) (fun z => ⟨by unfold twN; rw [if_pos (by have := (not_congr c0).mp z; omega)]; rfl, rfl, rfl⟩)
  refine a_callV (b := q0) (As := [.int (nI a)]) (st := []) (ci := 0) F (c_0_highest (xl X) hP I A J hB q0 hk_q0 hp_q0 hq_q0 a B ha hb) ml_2_91 im_yX0_highest se_yX0_highest (by decide) (by decide) rfl (hp_q0) hk_q0 rfl dX2_timesWon_13 (by decide) (Nat.le_refl 0) (Nat.le_refl 0) (hl_r (hp_q0) (hl_i hl_nil)) hs_nil ?_
  rintro _ _ _ ⟨rfl, rfl, rfl⟩ _
  have hl := hi_le B (26 * a) 25
  have hz := c0.mp z
  refine a_bipush (v := 18) F dX2_timesWon_16 (by decide) ?_
  refine a_icmp_le (tgt := 25) F dX2_timesWon_18 (by decide) (fun c => ?_) (fun c => ?_)
  · refine a_iconst (v := 2) F dX2_timesWon_25 (by decide) ?_
    refine a_iret F E dX2_timesWon_26 (Nat.le_refl 0) (Nat.le_refl 0) ⟨?_, rfl, rfl⟩
    have := (nI_len 18 (by omega) (by omega)).mp c
    unfold twN; rw [if_neg (by omega), if_neg (by omega)]; rfl
  · refine a_iconst (v := 3) F dX2_timesWon_21 (by decide) ?_
    refine a_goto (tgt := 26) F dX2_timesWon_22 (by decide) ?_
    refine a_iret F E dX2_timesWon_26 (Nat.le_refl 0) (Nat.le_refl 0) ⟨?_, rfl, rfl⟩
    have := (not_congr (nI_len 18 (k := hiN B (26 * a) 25) (by omega) (by omega))).mp c
    unfold twN; rw [if_neg (by omega), if_pos (by omega)]; rfl

theorem hi_cg {B B' : Nat → Nat} {o : Nat} : ∀ n, (∀ k, 1 ≤ k → k ≤ n → B (o + k) = B' (o + k)) → hiN B o n = hiN B' o n
  | 0, _ => rfl
  | n + 1, h => by
    unfold hiN
    rw [h (n + 1) (by omega) (by omega), hi_cg n (fun k h1 h2 => h k h1 (by omega))]
theorem tw_cg {B B' : Nat → Nat} {a : Nat} (ha : a ≤ 1) (h : ∀ k, k < 52 → B k = B' k) : twN B a = twN B' a := by
  unfold twN
  rw [h (26 * a) (by omega), hi_cg 25 (fun k h1 h2 => h _ (by omega))]
def clR (r : Nat → Int32) : Nat → Nat := fun k => (r k).toNatClampNeg
theorem cl_bd {r : Nat → Int32} {B : Nat → Nat} (h : bdR r 0 B) (k : Nat) (hk : k < 52) : B k = clR r k := by
  unfold clR; rw [bd_at h hk, nI_clamp (by have := (h k hk).2; omega)]
def twI (r : Nat → Int32) (x : Int32) : Int32 := nI (twN (clR r) x.toNatClampNeg)
def okRw (r : Nat → Int32) : Prop := ∃ B, bdR r 0 B
theorem c_2_timesWonI (l : Launch) {P O : Nat → Nat → Option Nat} (hP : laP P) (I A : Nat → Nat → Int32) (J : Nat → Nat → Int64) {pl : List Nat} (hB : inB pl) (q0 : Nat) (hk_q0 : kC q0 = 0) (hp_q0 : q0 ∈ pl) (hq_q0 : q0 + 1 ∈ pl) (x : Int32) (hx : x = 0 ∨ x = 1) (h : okRw (A (q0 + 1))) : Con l 3 yX2_timesWon cX2_timesWon 2 (some .int) [.ref q0, .int x] (mC P O I A J) pl 0 0 (PC (some (.int (twI (A (q0 + 1)) x))) P O I A J pl) := by
  obtain ⟨B, hb⟩ := h
  rcases hx with rfl | rfl
  · have := c_2_timesWon l hP I A J hB q0 hk_q0 hp_q0 hq_q0 0 B (by omega) hb (O := O)
    rw [tw_cg (by omega) (cl_bd hb)] at this
    exact this
  · have := c_2_timesWon l hP I A J hB q0 hk_q0 hp_q0 hq_q0 1 B (by omega) hb (O := O)
    rw [tw_cg (by omega) (cl_bd hb)] at this
    exact this
def gnQ (P O : Nat → Nat → Option Nat) (I A : Nat → Nat → Int32) (J : Nat → Nat → Int64) (pl : List Nat) (r : Nat → Int32) : Option Value → HS → List Nat → Prop := fun rv σ' pl' => (r 0 = 15 → PC none P O (eCI (diceI I 0 0) 0 (I 114 13 * twI r 1) (A 115 0 + I 114 13 * twI r 1)) (eCA A 0 (I 114 13 * twI r 1)) J pl rv σ' pl') ∧ (¬ r 0 = 15 → r 26 = 15 → PC none P O (eCI (diceI I 0 0) 1 (I 114 13 * twI r 0) (A 115 1 + I 114 13 * twI r 0)) (eCA A 1 (I 114 13 * twI r 0)) J pl rv σ' pl') ∧ (¬ r 0 = 15 → ¬ r 26 = 15 → PC none P O (up2 (diceI I 0 0) 114 12 2) A J pl rv σ' pl')

theorem r_2_goOn_0 {X : Ctx} (F : Fx X cX2_goOn RX2 2 5 0 0) {P O : Nat → Nat → Option Nat} (hP : laP P) {I A : Nat → Nat → Int32} {J : Nat → Nat → Int64} {pl : List Nat} (hB : inB pl) {q1 : Nat} (hk_q1 : kC q1 = 0) (hp_q1 : q1 ∈ pl) (hq_q1 : q1 + 1 ∈ pl)
    (e_1 : WA X (mC P O (diceI I (0 : Int32) (0 : Int32)) A J) pl 0 0 6 [(0, .ref 114), (1, .ref q1)] []) :
    WA X (mC P O I A J) pl 0 0 0 [(0, .ref 114), (1, .ref q1)] [] := by
  refine a_aload_n F 0 dX2_goOn_0 rfl rfl ?_
  refine a_iconst (v := 0) F dX2_goOn_1 (by decide) ?_
  refine a_iconst (v := 0) F dX2_goOn_2 (by decide) ?_
  refine a_callV (b := 114) (As := [.int 0, .int 0]) (st := []) (ci := 2) F (c_2_setDice (xl X) hP I A J hB (0 : Int32) (0 : Int32)) ml_2_50 im_yX2_setDice se_yX2_setDice (by decide) (by decide) rfl (hB _ (by decide)) rfl rfl dX2_goOn_3 (by decide) (Nat.le_refl 0) (Nat.le_refl 0) (hl_r (hB _ (by decide)) (hl_r (hp_q1) hl_nil)) hs_nil ?_
  rintro _ _ _ ⟨rfl, rfl, rfl⟩ _
  show WA X (mC P O (diceI I (0 : Int32) (0 : Int32)) A J) pl 0 0 6 [(0, .ref 114), (1, .ref q1)] []
  exact e_1

theorem r_2_goOn_6 {X : Ctx} (F : Fx X cX2_goOn RX2 2 5 0 0) {Φ : Option Value → HS → List Nat → Prop} (E : Ex X none 0 0 Φ) {P O : Nat → Nat → Option Nat} (hP : laP P) {I A : Nat → Nat → Int32} {J : Nat → Nat → Int64} {pl : List Nat} (hB : inB pl) {q1 : Nat} (hk_q1 : kC q1 = 0) (hp_q1 : q1 ∈ pl) (hq_q1 : q1 + 1 ∈ pl)
    (o_1 : vp_in ((0 : Int32) * 26 + 0) 52)
    (o_2 : ((A (q1 + 1)) ((0 : Int32) * 26 + 0).toNatClampNeg = 15) → (1 : Int32) = 0 ∨ (1 : Int32) = 1)
    (o_3 : ((A (q1 + 1)) ((0 : Int32) * 26 + 0).toNatClampNeg = 15) → okRw (A (q1 + 1)))
    (o_4 : ((A (q1 + 1)) ((0 : Int32) * 26 + 0).toNatClampNeg = 15) → vp_in (0 : Int32) 2)
    (e_5 : ((A (q1 + 1)) ((0 : Int32) * 26 + 0).toNatClampNeg = 15) → Φ none (mC P O (eCI I (0 : Int32) ((I 114 13) * (twI (A (q1 + 1)) (1 : Int32))) ((A 115) (0 : Int32).toNatClampNeg + ((I 114 13) * (twI (A (q1 + 1)) (1 : Int32))))) (eCA A (0 : Int32) ((I 114 13) * (twI (A (q1 + 1)) (1 : Int32)))) J) pl)
    (o_6 : (¬ ((A (q1 + 1)) ((0 : Int32) * 26 + 0).toNatClampNeg = 15)) → vp_in ((1 : Int32) * 26 + 0) 52)
    (o_7 : (¬ ((A (q1 + 1)) ((0 : Int32) * 26 + 0).toNatClampNeg = 15)) → ((A (q1 + 1)) ((1 : Int32) * 26 + 0).toNatClampNeg = 15) → (0 : Int32) = 0 ∨ (0 : Int32) = 1)
    (o_8 : (¬ ((A (q1 + 1)) ((0 : Int32) * 26 + 0).toNatClampNeg = 15)) → ((A (q1 + 1)) ((1 : Int32) * 26 + 0).toNatClampNeg = 15) → okRw (A (q1 + 1)))
    (o_9 : (¬ ((A (q1 + 1)) ((0 : Int32) * 26 + 0).toNatClampNeg = 15)) → ((A (q1 + 1)) ((1 : Int32) * 26 + 0).toNatClampNeg = 15) → vp_in (1 : Int32) 2)
    (e_10 : (¬ ((A (q1 + 1)) ((0 : Int32) * 26 + 0).toNatClampNeg = 15)) → ((A (q1 + 1)) ((1 : Int32) * 26 + 0).toNatClampNeg = 15) → Φ none (mC P O (eCI I (1 : Int32) ((I 114 13) * (twI (A (q1 + 1)) (0 : Int32))) ((A 115) (1 : Int32).toNatClampNeg + ((I 114 13) * (twI (A (q1 + 1)) (0 : Int32))))) (eCA A (1 : Int32) ((I 114 13) * (twI (A (q1 + 1)) (0 : Int32)))) J) pl)
    (e_11 : (¬ ((A (q1 + 1)) ((0 : Int32) * 26 + 0).toNatClampNeg = 15)) → (¬ ((A (q1 + 1)) ((1 : Int32) * 26 + 0).toNatClampNeg = 15)) → Φ none (mC P O (up2 I 114 12 2) A J) pl) :
    WA X (mC P O I A J) pl 0 0 6 [(0, .ref 114), (1, .ref q1)] [] := by
  refine a_aload_n F 1 dX2_goOn_6 rfl rfl ?_
  refine a_iconst (v := 0) F dX2_goOn_7 (by decide) ?_
  refine a_callV (b := q1) (As := [.int 0]) (st := []) (ci := 0) F (c_0_hasAllOff (xl X) hP I A J hB q1 hk_q1 (hp_q1) (hq_q1) (0 : Int32) (o_1)) ml_2_77 im_yX0_hasAllOff se_yX0_hasAllOff (by decide) (by decide) rfl (hp_q1) hk_q1 rfl dX2_goOn_8 (by decide) (Nat.le_refl 0) (Nat.le_refl 0) (hl_r (hB _ (by decide)) (hl_r (hp_q1) hl_nil)) hs_nil ?_
  rintro _ _ _ ⟨rfl, rfl, rfl⟩ _
  show WA X (mC P O I A J) pl 0 0 11 [(0, .ref 114), (1, .ref q1)] [.int (if (A (q1 + 1)) ((0 : Int32) * 26 + 0).toNatClampNeg = 15 then 1 else 0)]
  refine a_ite (fun (c_1 : (A (q1 + 1)) ((0 : Int32) * 26 + 0).toNatClampNeg = 15) => ?_) (fun (c_1 : ¬ ((A (q1 + 1)) ((0 : Int32) * 26 + 0).toNatClampNeg = 15)) => ?_)
  · refine a_if_eq (tgt := 32) F dX2_goOn_11 (by decide) (fun (c_2 : (1 : Int32) = 0) => ?_) (fun (c_2 : ¬ ((1 : Int32) = 0)) => ?_)
    · exact absurd c_2 (by decide)
    · refine a_aload_n F 0 dX2_goOn_14 rfl rfl ?_
      refine a_iconst (v := 0) F dX2_goOn_15 (by decide) ?_
      refine a_aload_n F 0 dX2_goOn_16 rfl rfl ?_
      refine a_geti F fl_2_22 rfl (hB _ (by decide)) rfl dX2_goOn_17 ?_
      refine a_aload_n F 1 dX2_goOn_20 rfl rfl ?_
      refine a_iconst (v := 1) F dX2_goOn_21 (by decide) ?_
      refine a_callS (As := [.ref q1, .int 1]) (st := [.int (I 114 13), .int 0, .ref 114]) F (c_2_timesWonI (xl X) hP I A J hB q1 hk_q1 (hp_q1) (hq_q1) (1 : Int32) (o_2 c_1) (o_3 c_1)) ml_2_81 sm_yX2_timesWon (by decide) rfl dX2_goOn_22 (Nat.le_of_ble_eq_true rfl) (Nat.le_refl 0) (Nat.le_refl 0) (hl_r (hB _ (by decide)) (hl_r (hp_q1) hl_nil)) (hs_i (hs_i (hs_r (hB _ (by decide)) hs_nil))) ?_
      rintro _ _ _ ⟨rfl, rfl, rfl⟩ _
      show WA X (mC P O I A J) pl 0 0 25 [(0, .ref 114), (1, .ref q1)] [.int (twI (A (q1 + 1)) (1 : Int32)), .int (I 114 13), .int 0, .ref 114]
      refine a_imul F dX2_goOn_25 ?_
      refine a_callV (b := 114) (As := [.int 0, .int ((I 114 13) * (twI (A (q1 + 1)) (1 : Int32)))]) (st := []) (ci := 2) F (c_2_end (xl X) hP I A J hB (0 : Int32) ((I 114 13) * (twI (A (q1 + 1)) (1 : Int32))) (o_4 c_1)) ml_2_85 im_yX2_end se_yX2_end (by decide) (by decide) rfl (hB _ (by decide)) rfl rfl dX2_goOn_26 (by decide) (Nat.le_refl 0) (Nat.le_refl 0) (hl_r (hB _ (by decide)) (hl_r (hp_q1) hl_nil)) hs_nil ?_
      rintro _ _ _ ⟨rfl, rfl, rfl⟩ _
      show WA X (mC P O (eCI I (0 : Int32) ((I 114 13) * (twI (A (q1 + 1)) (1 : Int32))) ((A 115) (0 : Int32).toNatClampNeg + ((I 114 13) * (twI (A (q1 + 1)) (1 : Int32))))) (eCA A (0 : Int32) ((I 114 13) * (twI (A (q1 + 1)) (1 : Int32)))) J) pl 0 0 29 [(0, .ref 114), (1, .ref q1)] []
      refine a_goto (tgt := 63) F dX2_goOn_29 (by decide) ?_
      exact a_vret F E dX2_goOn_63 (Nat.le_refl 0) (Nat.le_refl 0) (e_5 c_1)
  · refine a_if_eq (tgt := 32) F dX2_goOn_11 (by decide) (fun (c_3 : (0 : Int32) = 0) => ?_) (fun (c_3 : ¬ ((0 : Int32) = 0)) => ?_)
    · refine a_aload_n F 1 dX2_goOn_32 rfl rfl ?_
      refine a_iconst (v := 1) F dX2_goOn_33 (by decide) ?_
      refine a_callV (b := q1) (As := [.int 1]) (st := []) (ci := 0) F (c_0_hasAllOff (xl X) hP I A J hB q1 hk_q1 (hp_q1) (hq_q1) (1 : Int32) (o_6 c_1)) ml_2_77 im_yX0_hasAllOff se_yX0_hasAllOff (by decide) (by decide) rfl (hp_q1) hk_q1 rfl dX2_goOn_34 (by decide) (Nat.le_refl 0) (Nat.le_refl 0) (hl_r (hB _ (by decide)) (hl_r (hp_q1) hl_nil)) hs_nil ?_
      rintro _ _ _ ⟨rfl, rfl, rfl⟩ _
      show WA X (mC P O I A J) pl 0 0 37 [(0, .ref 114), (1, .ref q1)] [.int (if (A (q1 + 1)) ((1 : Int32) * 26 + 0).toNatClampNeg = 15 then 1 else 0)]
      refine a_ite (fun (c_4 : (A (q1 + 1)) ((1 : Int32) * 26 + 0).toNatClampNeg = 15) => ?_) (fun (c_4 : ¬ ((A (q1 + 1)) ((1 : Int32) * 26 + 0).toNatClampNeg = 15)) => ?_)
      · refine a_if_eq (tgt := 58) F dX2_goOn_37 (by decide) (fun (c_5 : (1 : Int32) = 0) => ?_) (fun (c_5 : ¬ ((1 : Int32) = 0)) => ?_)
        · exact absurd c_5 (by decide)
        · refine a_aload_n F 0 dX2_goOn_40 rfl rfl ?_
          refine a_iconst (v := 1) F dX2_goOn_41 (by decide) ?_
          refine a_aload_n F 0 dX2_goOn_42 rfl rfl ?_
          refine a_geti F fl_2_22 rfl (hB _ (by decide)) rfl dX2_goOn_43 ?_
          refine a_aload_n F 1 dX2_goOn_46 rfl rfl ?_
          refine a_iconst (v := 0) F dX2_goOn_47 (by decide) ?_
          refine a_callS (As := [.ref q1, .int 0]) (st := [.int (I 114 13), .int 1, .ref 114]) F (c_2_timesWonI (xl X) hP I A J hB q1 hk_q1 (hp_q1) (hq_q1) (0 : Int32) (o_7 c_1 c_4) (o_8 c_1 c_4)) ml_2_81 sm_yX2_timesWon (by decide) rfl dX2_goOn_48 (Nat.le_of_ble_eq_true rfl) (Nat.le_refl 0) (Nat.le_refl 0) (hl_r (hB _ (by decide)) (hl_r (hp_q1) hl_nil)) (hs_i (hs_i (hs_r (hB _ (by decide)) hs_nil))) ?_
          rintro _ _ _ ⟨rfl, rfl, rfl⟩ _
          show WA X (mC P O I A J) pl 0 0 51 [(0, .ref 114), (1, .ref q1)] [.int (twI (A (q1 + 1)) (0 : Int32)), .int (I 114 13), .int 1, .ref 114]
          refine a_imul F dX2_goOn_51 ?_
          refine a_callV (b := 114) (As := [.int 1, .int ((I 114 13) * (twI (A (q1 + 1)) (0 : Int32)))]) (st := []) (ci := 2) F (c_2_end (xl X) hP I A J hB (1 : Int32) ((I 114 13) * (twI (A (q1 + 1)) (0 : Int32))) (o_9 c_1 c_4)) ml_2_85 im_yX2_end se_yX2_end (by decide) (by decide) rfl (hB _ (by decide)) rfl rfl dX2_goOn_52 (by decide) (Nat.le_refl 0) (Nat.le_refl 0) (hl_r (hB _ (by decide)) (hl_r (hp_q1) hl_nil)) hs_nil ?_
          rintro _ _ _ ⟨rfl, rfl, rfl⟩ _
          show WA X (mC P O (eCI I (1 : Int32) ((I 114 13) * (twI (A (q1 + 1)) (0 : Int32))) ((A 115) (1 : Int32).toNatClampNeg + ((I 114 13) * (twI (A (q1 + 1)) (0 : Int32))))) (eCA A (1 : Int32) ((I 114 13) * (twI (A (q1 + 1)) (0 : Int32)))) J) pl 0 0 55 [(0, .ref 114), (1, .ref q1)] []
          refine a_goto (tgt := 63) F dX2_goOn_55 (by decide) ?_
          exact a_vret F E dX2_goOn_63 (Nat.le_refl 0) (Nat.le_refl 0) (e_10 c_1 c_4)
      · refine a_if_eq (tgt := 58) F dX2_goOn_37 (by decide) (fun (c_6 : (0 : Int32) = 0) => ?_) (fun (c_6 : ¬ ((0 : Int32) = 0)) => ?_)
        · refine a_aload_n F 0 dX2_goOn_58 rfl rfl ?_
          refine a_iconst (v := 2) F dX2_goOn_59 (by decide) ?_
          refine a_puti F fl_2_25 rfl rfl rfl rfl (hB _ (by decide)) rfl dX2_goOn_60 ?_
          exact a_vret F E dX2_goOn_63 (Nat.le_refl 0) (Nat.le_refl 0) (e_11 c_1 c_4)
        · exact absurd c_6 (by decide)
    · exact absurd c_3 (by decide)

set_option maxRecDepth 10000 in
theorem c_2_goOn (l : Launch) {P O : Nat → Nat → Option Nat} (hP : laP P) (I A : Nat → Nat → Int32) (J : Nat → Nat → Int64) {pl : List Nat} (hB : inB pl) (q1 : Nat) (hk_q1 : kC q1 = 0) (hp_q1 : q1 ∈ pl) (hq_q1 : q1 + 1 ∈ pl) (h : okRw (A (q1 + 1))) : Con l 5 yX2_goOn cX2_goOn 2 none [.ref 114, .ref q1] (mC P O I A J) pl 0 0 (gnQ P O I A J pl (A (q1 + 1))) := by
  refine Con.of (by decide) (Nat.le_of_ble_eq_true rfl) (fun X hX9 hn9 F E => ?_)
  have v0 : vp_in ((0 : Int32) * 26 + 0) 52 := vp_in_nI (n := 0) (by omega) (by omega)
  have v1 : vp_in ((1 : Int32) * 26 + 0) 52 := vp_in_nI (n := 26) (by omega) (by omega)
  refine r_2_goOn_0 F hP hB hk_q1 hp_q1 hq_q1 ?_
  refine r_2_goOn_6 F E hP hB hk_q1 hp_q1 hq_q1 v0 (fun _ => Or.inr rfl) (fun _ => h) (fun _ => vp_in_nI (n := 0) (by omega) (by omega)) (fun c => ⟨fun _ => ⟨rfl, rfl, rfl⟩, fun z => absurd c z, fun z => absurd c z⟩) (fun _ => v1) (fun _ _ => Or.inl rfl) (fun _ _ => h) (fun _ _ => vp_in_nI (n := 1) (by omega) (by omega)) (fun c1 c2 => ⟨fun z => absurd z c1, fun _ _ => ⟨rfl, rfl, rfl⟩, fun _ z => absurd c2 z⟩) (fun c1 c2 => ⟨fun z => absurd z c1, fun _ z => absurd z c2, fun _ _ => ⟨rfl, rfl, rfl⟩⟩)

def tfI (I : Nat → Nat → Int32) (q : Nat) (a b : Int32) : Nat → Nat → Int32 := if a = b then up2 I 114 7 (I 114 7 + 1) else tdI (up2 I q 1 (if a ≤ b then 1 else 0)) a b

theorem r_2_takeFirstDice_0 {X : Ctx} (F : Fx X cX2_takeFirstDice RX2 4 4 0 0) {Φ : Option Value → HS → List Nat → Prop} (E : Ex X none 0 0 Φ) {P O : Nat → Nat → Option Nat} (hP : laP P) {I A : Nat → Nat → Int32} {J : Nat → Nat → Int64} {pl : List Nat} (hB : inB pl) {x1 x2 : Int32} {q3 : Nat} (hk_q3 : kC q3 = 0) (hp_q3 : q3 ∈ pl) (hq_q3 : q3 + 1 ∈ pl)
    (e_1 : (¬ x1 = x2) → (x1 ≤ x2) → Φ none (mC P O (tdI (up2 I q3 1 1) x1 x2) A J) pl)
    (e_2 : (¬ x1 = x2) → (¬ (x1 ≤ x2)) → Φ none (mC P O (tdI (up2 I q3 1 0) x1 x2) A J) pl)
    (e_3 : (x1 = x2) → Φ none (mC P O (up2 I 114 7 ((I 114 7) + 1)) A J) pl) :
    WA X (mC P O I A J) pl 0 0 0 [(0, .ref 114), (1, .int x1), (2, .int x2), (3, .ref q3)] [] := by
  refine a_iload_n F 1 dX2_takeFirstDice_0 rfl rfl ?_
  refine a_iload_n F 2 dX2_takeFirstDice_1 rfl rfl ?_
  refine a_icmp_ne (tgt := 18) F dX2_takeFirstDice_2 (by decide) (fun (c_1 : ¬ x1 = x2) => ?_) (fun (c_1 : x1 = x2) => ?_)
  · refine a_aload_n F 3 dX2_takeFirstDice_18 rfl rfl ?_
    refine a_iload_n F 1 dX2_takeFirstDice_19 rfl rfl ?_
    refine a_iload_n F 2 dX2_takeFirstDice_20 rfl rfl ?_
    refine a_icmp_le (tgt := 28) F dX2_takeFirstDice_21 (by decide) (fun (c_2 : x1 ≤ x2) => ?_) (fun (c_2 : ¬ (x1 ≤ x2)) => ?_)
    · refine a_iconst (v := 1) F dX2_takeFirstDice_28 (by decide) ?_
      refine a_puti F fl_2_69 rfl rfl rfl rfl (hp_q3) hk_q3 dX2_takeFirstDice_29 ?_
      refine a_aload_n F 0 dX2_takeFirstDice_32 rfl rfl ?_
      refine a_iload_n F 1 dX2_takeFirstDice_33 rfl rfl ?_
      refine a_iload_n F 2 dX2_takeFirstDice_34 rfl rfl ?_
      refine a_callV (b := 114) (As := [.int x1, .int x2]) (st := []) (ci := 2) F (c_2_takeDice (xl X) hP (up2 I q3 1 1) A J hB x1 x2) ml_2_74 im_yX2_takeDice se_yX2_takeDice (by decide) (by decide) rfl (hB _ (by decide)) rfl rfl dX2_takeFirstDice_35 (by decide) (Nat.le_refl 0) (Nat.le_refl 0) (hl_r (hB _ (by decide)) (hl_i (hl_i (hl_r (hp_q3) hl_nil)))) hs_nil ?_
      rintro _ _ _ ⟨rfl, rfl, rfl⟩ _
      show WA X (mC P O (tdI (up2 I q3 1 1) x1 x2) A J) pl 0 0 38 [(0, .ref 114), (1, .int x1), (2, .int x2), (3, .ref q3)] []
      exact a_vret F E dX2_takeFirstDice_38 (Nat.le_refl 0) (Nat.le_refl 0) (e_1 c_1 c_2)
    · refine a_iconst (v := 0) F dX2_takeFirstDice_24 (by decide) ?_
      refine a_goto (tgt := 29) F dX2_takeFirstDice_25 (by decide) ?_
      refine a_puti F fl_2_69 rfl rfl rfl rfl (hp_q3) hk_q3 dX2_takeFirstDice_29 ?_
      refine a_aload_n F 0 dX2_takeFirstDice_32 rfl rfl ?_
      refine a_iload_n F 1 dX2_takeFirstDice_33 rfl rfl ?_
      refine a_iload_n F 2 dX2_takeFirstDice_34 rfl rfl ?_
      refine a_callV (b := 114) (As := [.int x1, .int x2]) (st := []) (ci := 2) F (c_2_takeDice (xl X) hP (up2 I q3 1 0) A J hB x1 x2) ml_2_74 im_yX2_takeDice se_yX2_takeDice (by decide) (by decide) rfl (hB _ (by decide)) rfl rfl dX2_takeFirstDice_35 (by decide) (Nat.le_refl 0) (Nat.le_refl 0) (hl_r (hB _ (by decide)) (hl_i (hl_i (hl_r (hp_q3) hl_nil)))) hs_nil ?_
      rintro _ _ _ ⟨rfl, rfl, rfl⟩ _
      show WA X (mC P O (tdI (up2 I q3 1 0) x1 x2) A J) pl 0 0 38 [(0, .ref 114), (1, .int x1), (2, .int x2), (3, .ref q3)] []
      exact a_vret F E dX2_takeFirstDice_38 (Nat.le_refl 0) (Nat.le_refl 0) (e_2 c_1 c_2)
  · refine a_aload_n F 0 dX2_takeFirstDice_5 rfl rfl ?_
    refine a_dup F dX2_takeFirstDice_6 rfl ?_
    refine a_geti F fl_2_34 rfl (hB _ (by decide)) rfl dX2_takeFirstDice_7 ?_
    refine a_iconst (v := 1) F dX2_takeFirstDice_10 (by decide) ?_
    refine a_iadd F dX2_takeFirstDice_11 ?_
    refine a_puti F fl_2_34 rfl rfl rfl rfl (hB _ (by decide)) rfl dX2_takeFirstDice_12 ?_
    refine a_goto (tgt := 38) F dX2_takeFirstDice_15 (by decide) ?_
    exact a_vret F E dX2_takeFirstDice_38 (Nat.le_refl 0) (Nat.le_refl 0) (e_3 c_1)

set_option maxRecDepth 10000 in
theorem c_2_takeFirstDice (l : Launch) {P O : Nat → Nat → Option Nat} (hP : laP P) (I A : Nat → Nat → Int32) (J : Nat → Nat → Int64) {pl : List Nat} (hB : inB pl) (a b : Int32) (q3 : Nat) (hk_q3 : kC q3 = 0) (hp_q3 : q3 ∈ pl) (hq_q3 : q3 + 1 ∈ pl) : Con l 4 yX2_takeFirstDice cX2_takeFirstDice 4 none [.ref 114, .int a, .int b, .ref q3] (mC P O I A J) pl 0 0 (PC none P O (tfI I q3 a b) A J pl) := by
  refine Con.of (by decide) (Nat.le_of_ble_eq_true rfl) (fun X hX9 hn9 F E => ?_)
  refine r_2_takeFirstDice_0 F E hP hB hk_q3 hp_q3 hq_q3 ?_ ?_ ?_ <;> (clear F E hn9 hX9; (try clear X); intros; refine ⟨rfl, ?_, rfl⟩; unfold tfI; first | rw [if_pos (by assumption)] | (rw [if_neg (by assumption)]; first | rw [if_pos (by assumption)] | rw [if_neg (by assumption)]))
