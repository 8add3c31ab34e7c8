def gameI (I : Nat → Nat → Int32) : Nat → Nat → Int32 := up2 (up2 (up2 (up2 (up2 (up2 (up2 (up2 I 0 2 0) 0 16 0) 0 22 1) 0 23 (-1)) 0 24 (I 0 24 + 1)) 0 31 (I 0 32)) 0 32 0) 0 20 1
def gameA (A : Nat → Nat → Int32) : Nat → Nat → Int32 := up1 A 1 (fillF (A 1) 52 startB)
def beginI (I : Nat → Nat → Int32) (n : Int32) : Nat → Nat → Int32 := gameI (up2 (up2 (up2 (up2 (up2 (up2 (up2 (up2 (up2 I 0 0 0) 0 21 n) 0 24 0) 0 25 0) 0 26 0) 0 27 (-1)) 0 32 0) 0 33 0) 0 19 0)
def beginA (A : Nat → Nat → Int32) : Nat → Nat → Int32 := gameA (up1 (up1 A 30 (upd (A 30) 0 0)) 30 (upd (upd (A 30) 0 0) 1 0))
def rollI (I : Nat → Nat → Int32) (a b : Int32) : Nat → Nat → Int32 := if I 0 20 = 1 ∧ a = b then up2 (up2 I 0 0 0) 0 25 (I 0 25 + 1) else up2 (up2 (up2 (if I 0 20 = 1 then up2 (up2 (up2 I 0 0 0) 0 25 (I 0 25 + 1)) 0 2 (if a ≤ b then 1 else 0) else up2 (up2 I 0 0 0) 0 25 (I 0 25 + 1)) 0 28 (if a ≤ b then b else a)) 0 29 (if a ≤ b then a else b)) 0 20 3
def mayDbl (I : Nat → Nat → Int32) : Prop := I 0 20 = 2 ∧ (I 0 23 = -1 ∨ I 0 23 = I 0 2) ∧ I 0 22 < 64 ∧ I 0 31 = 0
def matchF (I A : Nat → Nat → Int32) (w : Int32) : Int32 := if w = 0 then I 0 20 else if w = 1 ∨ w = 2 then A 30 (w - 1).toNatClampNeg else if w = 3 then I 0 22 else if w = 4 then I 0 23 else if w = 5 then (if I 0 31 = 0 then 0 else 1) else if w = 6 then I 0 24 else if w = 7 then I 0 25 else if w = 8 then I 0 26 else if w = 9 then I 0 27 else if w = 10 then (if I 0 20 = 3 then I 0 28 else 0) else (if I 0 20 = 3 then I 0 29 else 0)

theorem r_12_game_0 {X : Ctx} (F : Fx X cX12_game RX12 1 2 0 0) {Φ : Option Value → HS → List Nat → Prop} (E : Ex X none 0 0 Φ) {I A : Nat → Nat → Int32} {J : Nat → Nat → Int64}
    (o_1 : ((up2 (up2 I 0 2 0) 0 16 0) 0 32) = 0 ∨ ((up2 (up2 I 0 2 0) 0 16 0) 0 32) = 1)
    (e_2 : Φ none (mS (up2 (up2 (up2 (up2 (up2 (up2 (up2 (up2 I 0 2 0) 0 16 0) 0 22 1) 0 23 (-1)) 0 24 (((up2 (up2 I 0 2 0) 0 16 0) 0 24) + 1)) 0 31 ((up2 (up2 I 0 2 0) 0 16 0) 0 32)) 0 32 0) 0 20 1) (up1 A 1 (fillF (A 1) 52 startB)) J) plM) :
    WA X (mS I A J) plM 0 0 0 [(0, .ref 0)] [] := by
  refine a_aload_n F 0 dX12_game_0 rfl rfl ?_
  refine a_callV (b := 0) (As := []) (st := []) (ci := 12) F (c_start (xl X) I A J ) ml_12_146 im_yX12_start se_yX12_start (by decide) (by decide) rfl (by decide) rfl rfl dX12_game_1 (by decide) (Nat.le_refl 0) (Nat.le_refl 0) (hl_r (by decide) hl_nil) hs_nil ?_
  rintro _ _ _ ⟨rfl, rfl, rfl⟩ _
  show WA X (mS (up2 (up2 I 0 2 0) 0 16 0) (up1 A 1 (fillF (A 1) 52 startB)) J) plM 0 0 4 [(0, .ref 0)] []
  refine a_aload_n F 0 dX12_game_4 rfl rfl ?_
  refine a_iconst (v := 1) F dX12_game_5 (by decide) ?_
  refine a_puti F fl_12_45 rfl rfl rfl rfl (by decide) rfl dX12_game_6 ?_
  refine a_aload_n F 0 dX12_game_9 rfl rfl ?_
  refine a_iconst (v := (-1)) F dX12_game_10 (by decide) ?_
  refine a_puti F fl_12_48 rfl rfl rfl rfl (by decide) rfl dX12_game_11 ?_
  refine a_aload_n F 0 dX12_game_14 rfl rfl ?_
  refine a_dup F dX12_game_15 rfl ?_
  refine a_geti F fl_12_265 rfl (by decide) rfl dX12_game_16 ?_
  refine a_iconst (v := 1) F dX12_game_19 (by decide) ?_
  refine a_iadd F dX12_game_20 ?_
  refine a_puti F fl_12_265 rfl rfl rfl rfl (by decide) rfl dX12_game_21 ?_
  refine a_aload_n F 0 dX12_game_24 rfl rfl ?_
  refine a_aload_n F 0 dX12_game_25 rfl rfl ?_
  refine a_geti F fl_12_274 rfl (by decide) rfl dX12_game_26 ?_
  refine a_puti F fl_12_284 rfl rfl (bz_n (o_1)).1 (bz_n (o_1)).2 (by decide) rfl dX12_game_29 ?_
  refine a_aload_n F 0 dX12_game_32 rfl rfl ?_
  refine a_iconst (v := 0) F dX12_game_33 (by decide) ?_
  refine a_puti F fl_12_274 rfl rfl (by decide +kernel) (by decide +kernel) (by decide) rfl dX12_game_34 ?_
  refine a_aload_n F 0 dX12_game_37 rfl rfl ?_
  refine a_iconst (v := 1) F dX12_game_38 (by decide) ?_
  refine a_puti F fl_12_227 rfl rfl rfl rfl (by decide) rfl dX12_game_39 ?_
  exact a_vret F E dX12_game_42 (Nat.le_refl 0) (Nat.le_refl 0) (e_2)

set_option maxRecDepth 10000 in
theorem c_game (l : Launch) (I A : Nat → Nat → Int32) (J : Nat → Nat → Int64) (h : I 0 32 = 0 ∨ I 0 32 = 1) : Con l 2 yX12_game cX12_game 1 none [.ref 0] (mS I A J) plM 0 0 (PM none (gameI I) (gameA A) J) := by
  refine Con.of (by decide) (Nat.le_of_ble_eq_true rfl) (fun X hX9 hn9 F E => ?_)
  exact r_12_game_0 F E h ⟨rfl, rfl, rfl⟩

theorem r_12_begin_0 {X : Ctx} (F : Fx X cX12_begin RX12 2 3 0 0) {Φ : Option Value → HS → List Nat → Prop} (E : Ex X none 0 0 Φ) {I A : Nat → Nat → Int32} {J : Nat → Nat → Int64} {x1 : Int32}
    (e_1 : (x1 < 0) → Φ none (mS (up2 (up2 I 0 0 0) 0 0 (1 : Int32)) A J) plM)
    (e_2 : (¬ (x1 < 0)) → (25 < x1) → Φ none (mS (up2 (up2 I 0 0 0) 0 0 (1 : Int32)) A J) plM)
    (o_3 : (¬ (x1 < 0)) → (¬ (25 < x1)) → vp_in 0 2)
    (o_4 : (¬ (x1 < 0)) → (¬ (25 < x1)) → vp_in 1 2)
    (o_5 : (¬ (x1 < 0)) → (¬ (25 < x1)) → (0 : Int32) = 0 ∨ (0 : Int32) = 1)
    (e_6 : (¬ (x1 < 0)) → (¬ (25 < x1)) → Φ none (mS (gameI (up2 (up2 (up2 (up2 (up2 (up2 (up2 (up2 (up2 I 0 0 0) 0 21 x1) 0 24 0) 0 25 0) 0 26 0) 0 27 (-1)) 0 32 0) 0 33 0) 0 19 0)) (gameA (up1 (up1 A 30 (upd (A 30) 0 0)) 30 (upd (upd (A 30) 0 0) 1 0))) J) plM) :
    WA X (mS I A J) plM 0 0 0 [(0, .ref 0), (1, .int x1)] [] := by
  refine a_aload_n F 0 dX12_begin_0 rfl rfl ?_
  refine a_iconst (v := 0) F dX12_begin_1 (by decide) ?_
  refine a_puti F fl_12_1 rfl rfl rfl rfl (by decide) rfl dX12_begin_2 ?_
  refine a_aload_n F 0 dX12_begin_5 rfl rfl ?_
  refine a_iload_n F 1 dX12_begin_6 rfl rfl ?_
  refine a_if_lt (tgt := 20) F dX12_begin_7 (by decide) (fun (c_1 : x1 < 0) => ?_) (fun (c_1 : ¬ (x1 < 0)) => ?_)
  · refine a_iconst (v := 0) F dX12_begin_20 (by decide) ?_
    refine a_iconst (v := 1) F dX12_begin_21 (by decide) ?_
    refine a_callV (b := 0) (As := [.int 0, .int 1]) (st := []) (ci := 12) F (c_may0 (xl X) (up2 I 0 0 0) A J (1 : Int32) (by decide) rfl) ml_12_155 im_yX12_may se_yX12_may (by decide) (by decide) rfl (by decide) rfl rfl dX12_begin_22 (by decide) (Nat.le_refl 0) (Nat.le_refl 0) (hl_r (by decide) (hl_i hl_nil)) hs_nil ?_
    rintro _ _ _ ⟨rfl, rfl, rfl⟩ _
    show WA X (mS (up2 (up2 I 0 0 0) 0 0 (1 : Int32)) A J) plM 0 0 25 [(0, .ref 0), (1, .int x1)] [.int 0]
    refine a_if_ne (tgt := 29) F dX12_begin_25 (by decide) (fun (c_2 : ¬ (0 : Int32) = 0) => ?_) (fun (c_2 : (0 : Int32) = 0) => ?_)
    · exact absurd c_2 (by decide)
    · exact a_vret F E dX12_begin_28 (Nat.le_refl 0) (Nat.le_refl 0) (e_1 c_1)
  · refine a_iload_n F 1 dX12_begin_10 rfl rfl ?_
    refine a_bipush (v := 25) F dX12_begin_11 (by decide) ?_
    refine a_icmp_gt (tgt := 20) F dX12_begin_13 (by decide) (fun (c_3 : 25 < x1) => ?_) (fun (c_3 : ¬ (25 < x1)) => ?_)
    · refine a_iconst (v := 0) F dX12_begin_20 (by decide) ?_
      refine a_iconst (v := 1) F dX12_begin_21 (by decide) ?_
      refine a_callV (b := 0) (As := [.int 0, .int 1]) (st := []) (ci := 12) F (c_may0 (xl X) (up2 I 0 0 0) A J (1 : Int32) (by decide) rfl) ml_12_155 im_yX12_may se_yX12_may (by decide) (by decide) rfl (by decide) rfl rfl dX12_begin_22 (by decide) (Nat.le_refl 0) (Nat.le_refl 0) (hl_r (by decide) (hl_i hl_nil)) hs_nil ?_
      rintro _ _ _ ⟨rfl, rfl, rfl⟩ _
      show WA X (mS (up2 (up2 I 0 0 0) 0 0 (1 : Int32)) A J) plM 0 0 25 [(0, .ref 0), (1, .int x1)] [.int 0]
      refine a_if_ne (tgt := 29) F dX12_begin_25 (by decide) (fun (c_4 : ¬ (0 : Int32) = 0) => ?_) (fun (c_4 : (0 : Int32) = 0) => ?_)
      · exact absurd c_4 (by decide)
      · exact a_vret F E dX12_begin_28 (Nat.le_refl 0) (Nat.le_refl 0) (e_2 c_1 c_3)
    · refine a_iconst (v := 1) F dX12_begin_16 (by decide) ?_
      refine a_goto (tgt := 21) F dX12_begin_17 (by decide) ?_
      refine a_iconst (v := 1) F dX12_begin_21 (by decide) ?_
      refine a_callV (b := 0) (As := [.int 1, .int 1]) (st := []) (ci := 12) F (c_may1 (xl X) (up2 I 0 0 0) A J (1 : Int32) (by decide) rfl) ml_12_155 im_yX12_may se_yX12_may (by decide) (by decide) rfl (by decide) rfl rfl dX12_begin_22 (by decide) (Nat.le_refl 0) (Nat.le_refl 0) (hl_r (by decide) (hl_i hl_nil)) hs_nil ?_
      rintro _ _ _ ⟨rfl, rfl, rfl⟩ _
      show WA X (mS (up2 I 0 0 0) A J) plM 0 0 25 [(0, .ref 0), (1, .int x1)] [.int 1]
      refine a_if_ne (tgt := 29) F dX12_begin_25 (by decide) (fun (c_5 : ¬ (1 : Int32) = 0) => ?_) (fun (c_5 : (1 : Int32) = 0) => ?_)
      · refine a_aload_n F 0 dX12_begin_29 rfl rfl ?_
        refine a_iload_n F 1 dX12_begin_30 rfl rfl ?_
        refine a_puti F fl_12_262 rfl rfl rfl rfl (by decide) rfl dX12_begin_31 ?_
        refine a_aload_n F 0 dX12_begin_34 rfl rfl ?_
        refine a_getr (b := 30) F fl_12_54 rfl (by decide) rfl rfl dX12_begin_35 ?_
        refine a_iconst (v := 0) F dX12_begin_38 (by decide) ?_
        refine a_iconst (v := 0) F dX12_begin_39 (by decide) ?_
        refine a_iast F (by decide) rfl (o_3 c_1 c_3) dX12_begin_40 ?_
        refine a_aload_n F 0 dX12_begin_41 rfl rfl ?_
        refine a_getr (b := 30) F fl_12_54 rfl (by decide) rfl rfl dX12_begin_42 ?_
        refine a_iconst (v := 1) F dX12_begin_45 (by decide) ?_
        refine a_iconst (v := 0) F dX12_begin_46 (by decide) ?_
        refine a_iast F (by decide) rfl (o_4 c_1 c_3) dX12_begin_47 ?_
        refine a_aload_n F 0 dX12_begin_48 rfl rfl ?_
        refine a_iconst (v := 0) F dX12_begin_49 (by decide) ?_
        refine a_puti F fl_12_265 rfl rfl rfl rfl (by decide) rfl dX12_begin_50 ?_
        refine a_aload_n F 0 dX12_begin_53 rfl rfl ?_
        refine a_iconst (v := 0) F dX12_begin_54 (by decide) ?_
        refine a_puti F fl_12_268 rfl rfl rfl rfl (by decide) rfl dX12_begin_55 ?_
        refine a_aload_n F 0 dX12_begin_58 rfl rfl ?_
        refine a_iconst (v := 0) F dX12_begin_59 (by decide) ?_
        refine a_puti F fl_12_271 rfl rfl rfl rfl (by decide) rfl dX12_begin_60 ?_
        refine a_aload_n F 0 dX12_begin_63 rfl rfl ?_
        refine a_iconst (v := (-1)) F dX12_begin_64 (by decide) ?_
        refine a_puti F fl_12_51 rfl rfl rfl rfl (by decide) rfl dX12_begin_65 ?_
        refine a_aload_n F 0 dX12_begin_68 rfl rfl ?_
        refine a_iconst (v := 0) F dX12_begin_69 (by decide) ?_
        refine a_puti F fl_12_274 rfl rfl (by decide +kernel) (by decide +kernel) (by decide) rfl dX12_begin_70 ?_
        refine a_aload_n F 0 dX12_begin_73 rfl rfl ?_
        refine a_iconst (v := 0) F dX12_begin_74 (by decide) ?_
        refine a_puti F fl_12_278 rfl rfl (by decide +kernel) (by decide +kernel) (by decide) rfl dX12_begin_75 ?_
        refine a_aload_n F 0 dX12_begin_78 rfl rfl ?_
        refine a_iconst (v := 0) F dX12_begin_79 (by decide) ?_
        refine a_puti F fl_12_249 rfl rfl rfl rfl (by decide) rfl dX12_begin_80 ?_
        refine a_aload_n F 0 dX12_begin_83 rfl rfl ?_
        refine a_callV (b := 0) (As := []) (st := []) (ci := 12) F (c_game (xl X) (up2 (up2 (up2 (up2 (up2 (up2 (up2 (up2 (up2 I 0 0 0) 0 21 x1) 0 24 0) 0 25 0) 0 26 0) 0 27 (-1)) 0 32 0) 0 33 0) 0 19 0) (up1 (up1 A 30 (upd (A 30) 0 0)) 30 (upd (upd (A 30) 0 0) 1 0)) J  (o_5 c_1 c_3)) ml_12_281 im_yX12_game se_yX12_game (by decide) (by decide) rfl (by decide) rfl rfl dX12_begin_84 (by decide) (Nat.le_refl 0) (Nat.le_refl 0) (hl_r (by decide) (hl_i hl_nil)) hs_nil ?_
        rintro _ _ _ ⟨rfl, rfl, rfl⟩ _
        show WA X (mS (gameI (up2 (up2 (up2 (up2 (up2 (up2 (up2 (up2 (up2 I 0 0 0) 0 21 x1) 0 24 0) 0 25 0) 0 26 0) 0 27 (-1)) 0 32 0) 0 33 0) 0 19 0)) (gameA (up1 (up1 A 30 (upd (A 30) 0 0)) 30 (upd (upd (A 30) 0 0) 1 0))) J) plM 0 0 87 [(0, .ref 0), (1, .int x1)] []
        exact a_vret F E dX12_begin_87 (Nat.le_refl 0) (Nat.le_refl 0) (e_6 c_1 c_3)
      · exact absurd c_5 (by decide)

set_option maxRecDepth 10000 in
theorem c_begin (l : Launch) (I A : Nat → Nat → Int32) (J : Nat → Nat → Int64) (n : Int32) : Con l 3 yX12_begin cX12_begin 2 none [.ref 0, .int n] (mS I A J) plM 0 0 (if 0 ≤ n ∧ n ≤ 25 then PM none (beginI I n) (beginA A) J else PM none (up2 I 0 0 1) A J) := by
  refine Con.of (by decide) (Nat.le_of_ble_eq_true rfl) (fun X hX9 hn9 F E => ?_)
  refine r_12_begin_0 F E ?_ ?_ ?_ ?_ ?_ ?_ <;> (clear F E hn9 hX9; (try clear X); intros <;> first | exact Or.inl rfl | exact vp_in_nI (n := 0) (by omega) (by omega) | exact vp_in_nI (n := 1) (by omega) (by omega) | (rw [if_pos (show 0 ≤ n ∧ n ≤ 25 by grind)]; exact ⟨rfl, rfl, rfl⟩) | (rw [if_neg (show ¬ (0 ≤ n ∧ n ≤ 25) by grind)]; exact ⟨rfl, by rw [up2_up2], rfl⟩))

theorem r_12_next_0 {X : Ctx} (F : Fx X cX12_next RX12 1 3 0 0) {Φ : Option Value → HS → List Nat → Prop} (E : Ex X none 0 0 Φ) {I A : Nat → Nat → Int32} {J : Nat → Nat → Int64}
    (e_1 : (¬ (I 0 20) = 5) → Φ none (mS (up2 (up2 I 0 0 0) 0 0 (1 : Int32)) A J) plM)
    (o_2 : ((I 0 20) = 5) → (I 0 32) = 0 ∨ (I 0 32) = 1)
    (e_3 : ((I 0 20) = 5) → Φ none (mS (gameI (up2 I 0 0 0)) (gameA A) J) plM) :
    WA X (mS I A J) plM 0 0 0 [(0, .ref 0)] [] := by
  refine a_aload_n F 0 dX12_next_0 rfl rfl ?_
  refine a_iconst (v := 0) F dX12_next_1 (by decide) ?_
  refine a_puti F fl_12_1 rfl rfl rfl rfl (by decide) rfl dX12_next_2 ?_
  refine a_aload_n F 0 dX12_next_5 rfl rfl ?_
  refine a_aload_n F 0 dX12_next_6 rfl rfl ?_
  refine a_geti F fl_12_227 rfl (by decide) rfl dX12_next_7 ?_
  refine a_iconst (v := 5) F dX12_next_10 (by decide) ?_
  refine a_icmp_ne (tgt := 18) F dX12_next_11 (by decide) (fun (c_1 : ¬ (I 0 20) = 5) => ?_) (fun (c_1 : (I 0 20) = 5) => ?_)
  · refine a_iconst (v := 0) F dX12_next_18 (by decide) ?_
    refine a_iconst (v := 1) F dX12_next_19 (by decide) ?_
    refine a_callV (b := 0) (As := [.int 0, .int 1]) (st := []) (ci := 12) F (c_may0 (xl X) (up2 I 0 0 0) A J (1 : Int32) (by decide) rfl) ml_12_155 im_yX12_may se_yX12_may (by decide) (by decide) rfl (by decide) rfl rfl dX12_next_20 (by decide) (Nat.le_refl 0) (Nat.le_refl 0) (hl_r (by decide) hl_nil) hs_nil ?_
    rintro _ _ _ ⟨rfl, rfl, rfl⟩ _
    show WA X (mS (up2 (up2 I 0 0 0) 0 0 (1 : Int32)) A J) plM 0 0 23 [(0, .ref 0)] [.int 0]
    refine a_if_eq (tgt := 30) F dX12_next_23 (by decide) (fun (c_2 : (0 : Int32) = 0) => ?_) (fun (c_2 : ¬ ((0 : Int32) = 0)) => ?_)
    · exact a_vret F E dX12_next_30 (Nat.le_refl 0) (Nat.le_refl 0) (e_1 c_1)
    · exact absurd c_2 (by decide)
  · refine a_iconst (v := 1) F dX12_next_14 (by decide) ?_
    refine a_goto (tgt := 19) F dX12_next_15 (by decide) ?_
    refine a_iconst (v := 1) F dX12_next_19 (by decide) ?_
    refine a_callV (b := 0) (As := [.int 1, .int 1]) (st := []) (ci := 12) F (c_may1 (xl X) (up2 I 0 0 0) A J (1 : Int32) (by decide) rfl) ml_12_155 im_yX12_may se_yX12_may (by decide) (by decide) rfl (by decide) rfl rfl dX12_next_20 (by decide) (Nat.le_refl 0) (Nat.le_refl 0) (hl_r (by decide) hl_nil) hs_nil ?_
    rintro _ _ _ ⟨rfl, rfl, rfl⟩ _
    show WA X (mS (up2 I 0 0 0) A J) plM 0 0 23 [(0, .ref 0)] [.int 1]
    refine a_if_eq (tgt := 30) F dX12_next_23 (by decide) (fun (c_3 : (1 : Int32) = 0) => ?_) (fun (c_3 : ¬ ((1 : Int32) = 0)) => ?_)
    · exact absurd c_3 (by decide)
    · refine a_aload_n F 0 dX12_next_26 rfl rfl ?_
      refine a_callV (b := 0) (As := []) (st := []) (ci := 12) F (c_game (xl X) (up2 I 0 0 0) A J  (o_2 c_1)) ml_12_281 im_yX12_game se_yX12_game (by decide) (by decide) rfl (by decide) rfl rfl dX12_next_27 (by decide) (Nat.le_refl 0) (Nat.le_refl 0) (hl_r (by decide) hl_nil) hs_nil ?_
      rintro _ _ _ ⟨rfl, rfl, rfl⟩ _
      show WA X (mS (gameI (up2 I 0 0 0)) (gameA A) J) plM 0 0 30 [(0, .ref 0)] []
      exact a_vret F E dX12_next_30 (Nat.le_refl 0) (Nat.le_refl 0) (e_3 c_1)

set_option maxRecDepth 10000 in
theorem c_next (l : Launch) (I A : Nat → Nat → Int32) (J : Nat → Nat → Int64) (h : I 0 32 = 0 ∨ I 0 32 = 1) : Con l 3 yX12_next cX12_next 1 none [.ref 0] (mS I A J) plM 0 0 (if I 0 20 = 5 then PM none (gameI (up2 I 0 0 0)) (gameA A) J else PM none (up2 I 0 0 1) A J) := by
  refine Con.of (by decide) (Nat.le_of_ble_eq_true rfl) (fun X hX9 hn9 F E => ?_)
  refine r_12_next_0 F E ?_ ?_ ?_ <;> (clear F E hn9 hX9; (try clear X); intros <;> first | assumption | exact Or.inl rfl | exact vp_in_nI (n := 0) (by omega) (by omega) | exact vp_in_nI (n := 1) (by omega) (by omega) | (simp_all [PM, up2_up2, beginI]; done) | (simp_all [PM, up2_up2, beginI]; grind))

theorem r_12_roll_0 {X : Ctx} (F : Fx X cX12_roll RX12 3 2 0 0) {Φ : Option Value → HS → List Nat → Prop} (E : Ex X (some .int) 0 0 Φ) {I A : Nat → Nat → Int32} {J : Nat → Nat → Int64} {x1 x2 : Int32}
    (e_1 : (1 ≤ x1 ∧ x1 ≤ 6) → (1 ≤ x2 ∧ x2 ≤ 6) → ((I 0 20) = 1) → (¬ x1 = x2) → Φ (some (.int 3)) (mS (up2 (up2 (up2 (up2 (up2 (up2 I 0 0 0) 0 25 ((I 0 25) + 1)) 0 2 (if x1 ≤ x2 then 1 else 0)) 0 28 (if x1 ≤ x2 then x2 else x1)) 0 29 (if x1 ≤ x2 then x1 else x2)) 0 20 3) A J) plM)
    (e_2 : (1 ≤ x1 ∧ x1 ≤ 6) → (1 ≤ x2 ∧ x2 ≤ 6) → ((I 0 20) = 1) → (x1 = x2) → Φ (some (.int 1)) (mS (up2 (up2 I 0 0 0) 0 25 ((I 0 25) + 1)) A J) plM)
    (e_3 : (1 ≤ x1 ∧ x1 ≤ 6) → (1 ≤ x2 ∧ x2 ≤ 6) → (¬ ((I 0 20) = 1)) → (¬ (I 0 20) = 2) → Φ (some (.int 0)) (mS (up2 (up2 I 0 0 0) 0 0 (2 : Int32)) A J) plM)
    (e_4 : (1 ≤ x1 ∧ x1 ≤ 6) → (1 ≤ x2 ∧ x2 ≤ 6) → (¬ ((I 0 20) = 1)) → ((I 0 20) = 2) → Φ (some (.int 3)) (mS (up2 (up2 (up2 (up2 (up2 I 0 0 0) 0 25 ((I 0 25) + 1)) 0 28 (if x1 ≤ x2 then x2 else x1)) 0 29 (if x1 ≤ x2 then x1 else x2)) 0 20 3) A J) plM)
    (e_5 : (1 ≤ x1 ∧ x1 ≤ 6) → (¬ (1 ≤ x2 ∧ x2 ≤ 6)) → Φ (some (.int 0)) (mS (up2 (up2 I 0 0 0) 0 0 (1 : Int32)) A J) plM)
    (e_6 : (¬ (1 ≤ x1 ∧ x1 ≤ 6)) → Φ (some (.int 0)) (mS (up2 (up2 I 0 0 0) 0 0 (1 : Int32)) A J) plM) :
    WA X (mS I A J) plM 0 0 0 [(0, .ref 0), (1, .int x1), (2, .int x2)] [] := by
  refine a_aload_n F 0 dX12_roll_0 rfl rfl ?_
  refine a_iconst (v := 0) F dX12_roll_1 (by decide) ?_
  refine a_puti F fl_12_1 rfl rfl rfl rfl (by decide) rfl dX12_roll_2 ?_
  refine a_aload_n F 0 dX12_roll_5 rfl rfl ?_
  refine a_iload_n F 1 dX12_roll_6 rfl rfl ?_
  refine a_callS (As := [.int x1]) (st := [.ref 0]) F (c_isDie (xl X) (up2 I 0 0 0) A J x1) ml_12_236 sm_yX12_isDie (by decide) rfl dX12_roll_7 (Nat.le_of_ble_eq_true rfl) (Nat.le_refl 0) (Nat.le_refl 0) (hl_r (by decide) (hl_i (hl_i hl_nil))) (hs_r (by decide) hs_nil) ?_
  rintro _ _ _ ⟨rfl, rfl, rfl⟩ _
  show WA X (mS (up2 I 0 0 0) A J) plM 0 0 10 [(0, .ref 0), (1, .int x1), (2, .int x2)] [.int (if 1 ≤ x1 ∧ x1 ≤ 6 then 1 else 0), .ref 0]
  refine a_ite (fun (c_1 : 1 ≤ x1 ∧ x1 ≤ 6) => ?_) (fun (c_1 : ¬ (1 ≤ x1 ∧ x1 ≤ 6)) => ?_)
  · refine a_if_eq (tgt := 24) F dX12_roll_10 (by decide) (fun (c_2 : (1 : Int32) = 0) => ?_) (fun (c_2 : ¬ ((1 : Int32) = 0)) => ?_)
    · exact absurd c_2 (by decide)
    · refine a_iload_n F 2 dX12_roll_13 rfl rfl ?_
      refine a_callS (As := [.int x2]) (st := [.ref 0]) F (c_isDie (xl X) (up2 I 0 0 0) A J x2) ml_12_236 sm_yX12_isDie (by decide) rfl dX12_roll_14 (Nat.le_of_ble_eq_true rfl) (Nat.le_refl 0) (Nat.le_refl 0) (hl_r (by decide) (hl_i (hl_i hl_nil))) (hs_r (by decide) hs_nil) ?_
      rintro _ _ _ ⟨rfl, rfl, rfl⟩ _
      show WA X (mS (up2 I 0 0 0) A J) plM 0 0 17 [(0, .ref 0), (1, .int x1), (2, .int x2)] [.int (if 1 ≤ x2 ∧ x2 ≤ 6 then 1 else 0), .ref 0]
      refine a_ite (fun (c_3 : 1 ≤ x2 ∧ x2 ≤ 6) => ?_) (fun (c_3 : ¬ (1 ≤ x2 ∧ x2 ≤ 6)) => ?_)
      · refine a_if_eq (tgt := 24) F dX12_roll_17 (by decide) (fun (c_4 : (1 : Int32) = 0) => ?_) (fun (c_4 : ¬ ((1 : Int32) = 0)) => ?_)
        · exact absurd c_4 (by decide)
        · refine a_iconst (v := 1) F dX12_roll_20 (by decide) ?_
          refine a_goto (tgt := 25) F dX12_roll_21 (by decide) ?_
          refine a_iconst (v := 1) F dX12_roll_25 (by decide) ?_
          refine a_callV (b := 0) (As := [.int 1, .int 1]) (st := []) (ci := 12) F (c_may1 (xl X) (up2 I 0 0 0) A J (1 : Int32) (by decide) rfl) ml_12_155 im_yX12_may se_yX12_may (by decide) (by decide) rfl (by decide) rfl rfl dX12_roll_26 (by decide) (Nat.le_refl 0) (Nat.le_refl 0) (hl_r (by decide) (hl_i (hl_i hl_nil))) hs_nil ?_
          rintro _ _ _ ⟨rfl, rfl, rfl⟩ _
          show WA X (mS (up2 I 0 0 0) A J) plM 0 0 29 [(0, .ref 0), (1, .int x1), (2, .int x2)] [.int 1]
          refine a_if_eq (tgt := 61) F dX12_roll_29 (by decide) (fun (c_5 : (1 : Int32) = 0) => ?_) (fun (c_5 : ¬ ((1 : Int32) = 0)) => ?_)
          · exact absurd c_5 (by decide)
          · refine a_aload_n F 0 dX12_roll_32 rfl rfl ?_
            refine a_aload_n F 0 dX12_roll_33 rfl rfl ?_
            refine a_geti F fl_12_227 rfl (by decide) rfl dX12_roll_34 ?_
            refine a_iconst (v := 1) F dX12_roll_37 (by decide) ?_
            refine a_icmp_eq (tgt := 49) F dX12_roll_38 (by decide) (fun (c_6 : (I 0 20) = 1) => ?_) (fun (c_6 : ¬ ((I 0 20) = 1)) => ?_)
            · refine a_iconst (v := 1) F dX12_roll_49 (by decide) ?_
              refine a_goto (tgt := 54) F dX12_roll_50 (by decide) ?_
              refine a_iconst (v := 2) F dX12_roll_54 (by decide) ?_
              refine a_callV (b := 0) (As := [.int 1, .int 2]) (st := []) (ci := 12) F (c_may1 (xl X) (up2 I 0 0 0) A J (2 : Int32) (by decide) rfl) ml_12_155 im_yX12_may se_yX12_may (by decide) (by decide) rfl (by decide) rfl rfl dX12_roll_55 (by decide) (Nat.le_refl 0) (Nat.le_refl 0) (hl_r (by decide) (hl_i (hl_i hl_nil))) hs_nil ?_
              rintro _ _ _ ⟨rfl, rfl, rfl⟩ _
              show WA X (mS (up2 I 0 0 0) A J) plM 0 0 58 [(0, .ref 0), (1, .int x1), (2, .int x2)] [.int 1]
              refine a_if_ne (tgt := 63) F dX12_roll_58 (by decide) (fun (c_7 : ¬ (1 : Int32) = 0) => ?_) (fun (c_7 : (1 : Int32) = 0) => ?_)
              · refine a_aload_n F 0 dX12_roll_63 rfl rfl ?_
                refine a_dup F dX12_roll_64 rfl ?_
                refine a_geti F fl_12_268 rfl (by decide) rfl dX12_roll_65 ?_
                refine a_iconst (v := 1) F dX12_roll_68 (by decide) ?_
                refine a_iadd F dX12_roll_69 ?_
                refine a_puti F fl_12_268 rfl rfl rfl rfl (by decide) rfl dX12_roll_70 ?_
                refine a_aload_n F 0 dX12_roll_73 rfl rfl ?_
                refine a_geti F fl_12_227 rfl (by decide) rfl dX12_roll_74 ?_
                refine a_iconst (v := 1) F dX12_roll_77 (by decide) ?_
                refine a_icmp_ne (tgt := 88) F dX12_roll_78 (by decide) (fun (c_8 : ¬ (I 0 20) = 1) => ?_) (fun (c_8 : (I 0 20) = 1) => ?_)
                · exact absurd c_6 c_8
                · refine a_iload_n F 1 dX12_roll_81 rfl rfl ?_
                  refine a_iload_n F 2 dX12_roll_82 rfl rfl ?_
                  refine a_icmp_ne (tgt := 88) F dX12_roll_83 (by decide) (fun (c_9 : ¬ x1 = x2) => ?_) (fun (c_9 : x1 = x2) => ?_)
                  · refine a_aload_n F 0 dX12_roll_88 rfl rfl ?_
                    refine a_geti F fl_12_227 rfl (by decide) rfl dX12_roll_89 ?_
                    refine a_iconst (v := 1) F dX12_roll_92 (by decide) ?_
                    refine a_icmp_ne (tgt := 110) F dX12_roll_93 (by decide) (fun (c_10 : ¬ (I 0 20) = 1) => ?_) (fun (c_10 : (I 0 20) = 1) => ?_)
                    · exact absurd c_6 c_10
                    · refine a_aload_n F 0 dX12_roll_96 rfl rfl ?_
                      refine a_iload_n F 1 dX12_roll_97 rfl rfl ?_
                      refine a_iload_n F 2 dX12_roll_98 rfl rfl ?_
                      suffices k : ∀ z9 : Int32, z9 = (if x1 ≤ x2 then 1 else 0) → WA X (mS (up2 (up2 I 0 0 0) 0 25 ((I 0 25) + 1)) A J) plM 0 0 107 [(0, .ref 0), (1, .int x1), (2, .int x2)] [.int z9, .ref 0] by
                        refine a_icmp_le (tgt := 106) F dX12_roll_99 (by decide) (fun (c_11 : x1 ≤ x2) => ?_) (fun (c_11 : ¬ (x1 ≤ x2)) => ?_)
                        · refine a_iconst (v := 1) F dX12_roll_106 (by decide) ?_
                          exact k _ (by rw [if_pos c_11] <;> rfl)
                        · refine a_iconst (v := 0) F dX12_roll_102 (by decide) ?_
                          refine a_goto (tgt := 107) F dX12_roll_103 (by decide) ?_
                          exact k _ (by rw [if_neg c_11] <;> rfl)
                      rintro _ rfl
                      refine a_puti F fl_12_149 rfl rfl rfl rfl (by decide) rfl dX12_roll_107 ?_
                      refine a_aload_n F 0 dX12_roll_110 rfl rfl ?_
                      refine a_iload_n F 1 dX12_roll_111 rfl rfl ?_
                      refine a_iload_n F 2 dX12_roll_112 rfl rfl ?_
                      suffices k : ∀ z9 : Int32, z9 = (if x1 ≤ x2 then x2 else x1) → WA X (mS (up2 (up2 (up2 I 0 0 0) 0 25 ((I 0 25) + 1)) 0 2 (if x1 ≤ x2 then 1 else 0)) A J) plM 0 0 121 [(0, .ref 0), (1, .int x1), (2, .int x2)] [.int z9, .ref 0] by
                        refine a_icmp_le (tgt := 120) F dX12_roll_113 (by decide) (fun (c_12 : x1 ≤ x2) => ?_) (fun (c_12 : ¬ (x1 ≤ x2)) => ?_)
                        · refine a_iload_n F 2 dX12_roll_120 rfl rfl ?_
                          exact k _ (by rw [if_pos c_12] <;> rfl)
                        · refine a_iload_n F 1 dX12_roll_116 rfl rfl ?_
                          refine a_goto (tgt := 121) F dX12_roll_117 (by decide) ?_
                          exact k _ (by rw [if_neg c_12] <;> rfl)
                      rintro _ rfl
                      refine a_puti F fl_12_230 rfl rfl rfl rfl (by decide) rfl dX12_roll_121 ?_
                      refine a_aload_n F 0 dX12_roll_124 rfl rfl ?_
                      refine a_iload_n F 1 dX12_roll_125 rfl rfl ?_
                      refine a_iload_n F 2 dX12_roll_126 rfl rfl ?_
                      suffices k : ∀ z9 : Int32, z9 = (if x1 ≤ x2 then x1 else x2) → WA X (mS (up2 (up2 (up2 (up2 I 0 0 0) 0 25 ((I 0 25) + 1)) 0 2 (if x1 ≤ x2 then 1 else 0)) 0 28 (if x1 ≤ x2 then x2 else x1)) A J) plM 0 0 135 [(0, .ref 0), (1, .int x1), (2, .int x2)] [.int z9, .ref 0] by
                        refine a_icmp_le (tgt := 134) F dX12_roll_127 (by decide) (fun (c_13 : x1 ≤ x2) => ?_) (fun (c_13 : ¬ (x1 ≤ x2)) => ?_)
                        · refine a_iload_n F 1 dX12_roll_134 rfl rfl ?_
                          exact k _ (by rw [if_pos c_13] <;> rfl)
                        · refine a_iload_n F 2 dX12_roll_130 rfl rfl ?_
                          refine a_goto (tgt := 135) F dX12_roll_131 (by decide) ?_
                          exact k _ (by rw [if_neg c_13] <;> rfl)
                      rintro _ rfl
                      refine a_puti F fl_12_233 rfl rfl rfl rfl (by decide) rfl dX12_roll_135 ?_
                      refine a_aload_n F 0 dX12_roll_138 rfl rfl ?_
                      refine a_iconst (v := 3) F dX12_roll_139 (by decide) ?_
                      refine a_puti F fl_12_227 rfl rfl rfl rfl (by decide) rfl dX12_roll_140 ?_
                      refine a_iconst (v := 3) F dX12_roll_143 (by decide) ?_
                      exact a_iret F E dX12_roll_144 (Nat.le_refl 0) (Nat.le_refl 0) (e_1 c_1 c_3 c_6 c_9)
                  · refine a_iconst (v := 1) F dX12_roll_86 (by decide) ?_
                    exact a_iret F E dX12_roll_87 (Nat.le_refl 0) (Nat.le_refl 0) (e_2 c_1 c_3 c_6 c_9)
              · exact absurd c_7 (by decide)
            · refine a_aload_n F 0 dX12_roll_41 rfl rfl ?_
              refine a_geti F fl_12_227 rfl (by decide) rfl dX12_roll_42 ?_
              refine a_iconst (v := 2) F dX12_roll_45 (by decide) ?_
              refine a_icmp_ne (tgt := 53) F dX12_roll_46 (by decide) (fun (c_14 : ¬ (I 0 20) = 2) => ?_) (fun (c_14 : (I 0 20) = 2) => ?_)
              · refine a_iconst (v := 0) F dX12_roll_53 (by decide) ?_
                refine a_iconst (v := 2) F dX12_roll_54 (by decide) ?_
                refine a_callV (b := 0) (As := [.int 0, .int 2]) (st := []) (ci := 12) F (c_may0 (xl X) (up2 I 0 0 0) A J (2 : Int32) (by decide) rfl) ml_12_155 im_yX12_may se_yX12_may (by decide) (by decide) rfl (by decide) rfl rfl dX12_roll_55 (by decide) (Nat.le_refl 0) (Nat.le_refl 0) (hl_r (by decide) (hl_i (hl_i hl_nil))) hs_nil ?_
                rintro _ _ _ ⟨rfl, rfl, rfl⟩ _
                show WA X (mS (up2 (up2 I 0 0 0) 0 0 (2 : Int32)) A J) plM 0 0 58 [(0, .ref 0), (1, .int x1), (2, .int x2)] [.int 0]
                refine a_if_ne (tgt := 63) F dX12_roll_58 (by decide) (fun (c_15 : ¬ (0 : Int32) = 0) => ?_) (fun (c_15 : (0 : Int32) = 0) => ?_)
                · exact absurd c_15 (by decide)
                · refine a_iconst (v := 0) F dX12_roll_61 (by decide) ?_
                  exact a_iret F E dX12_roll_62 (Nat.le_refl 0) (Nat.le_refl 0) (e_3 c_1 c_3 c_6 c_14)
              · refine a_iconst (v := 1) F dX12_roll_49 (by decide) ?_
                refine a_goto (tgt := 54) F dX12_roll_50 (by decide) ?_
                refine a_iconst (v := 2) F dX12_roll_54 (by decide) ?_
                refine a_callV (b := 0) (As := [.int 1, .int 2]) (st := []) (ci := 12) F (c_may1 (xl X) (up2 I 0 0 0) A J (2 : Int32) (by decide) rfl) ml_12_155 im_yX12_may se_yX12_may (by decide) (by decide) rfl (by decide) rfl rfl dX12_roll_55 (by decide) (Nat.le_refl 0) (Nat.le_refl 0) (hl_r (by decide) (hl_i (hl_i hl_nil))) hs_nil ?_
                rintro _ _ _ ⟨rfl, rfl, rfl⟩ _
                show WA X (mS (up2 I 0 0 0) A J) plM 0 0 58 [(0, .ref 0), (1, .int x1), (2, .int x2)] [.int 1]
                refine a_if_ne (tgt := 63) F dX12_roll_58 (by decide) (fun (c_16 : ¬ (1 : Int32) = 0) => ?_) (fun (c_16 : (1 : Int32) = 0) => ?_)
                · refine a_aload_n F 0 dX12_roll_63 rfl rfl ?_
                  refine a_dup F dX12_roll_64 rfl ?_
                  refine a_geti F fl_12_268 rfl (by decide) rfl dX12_roll_65 ?_
                  refine a_iconst (v := 1) F dX12_roll_68 (by decide) ?_
                  refine a_iadd F dX12_roll_69 ?_
                  refine a_puti F fl_12_268 rfl rfl rfl rfl (by decide) rfl dX12_roll_70 ?_
                  refine a_aload_n F 0 dX12_roll_73 rfl rfl ?_
                  refine a_geti F fl_12_227 rfl (by decide) rfl dX12_roll_74 ?_
                  refine a_iconst (v := 1) F dX12_roll_77 (by decide) ?_
                  refine a_icmp_ne (tgt := 88) F dX12_roll_78 (by decide) (fun (c_17 : ¬ (I 0 20) = 1) => ?_) (fun (c_17 : (I 0 20) = 1) => ?_)
                  · refine a_aload_n F 0 dX12_roll_88 rfl rfl ?_
                    refine a_geti F fl_12_227 rfl (by decide) rfl dX12_roll_89 ?_
                    refine a_iconst (v := 1) F dX12_roll_92 (by decide) ?_
                    refine a_icmp_ne (tgt := 110) F dX12_roll_93 (by decide) (fun (c_18 : ¬ (I 0 20) = 1) => ?_) (fun (c_18 : (I 0 20) = 1) => ?_)
                    · refine a_aload_n F 0 dX12_roll_110 rfl rfl ?_
                      refine a_iload_n F 1 dX12_roll_111 rfl rfl ?_
                      refine a_iload_n F 2 dX12_roll_112 rfl rfl ?_
                      suffices k : ∀ z9 : Int32, z9 = (if x1 ≤ x2 then x2 else x1) → WA X (mS (up2 (up2 I 0 0 0) 0 25 ((I 0 25) + 1)) A J) plM 0 0 121 [(0, .ref 0), (1, .int x1), (2, .int x2)] [.int z9, .ref 0] by
                        refine a_icmp_le (tgt := 120) F dX12_roll_113 (by decide) (fun (c_19 : x1 ≤ x2) => ?_) (fun (c_19 : ¬ (x1 ≤ x2)) => ?_)
                        · refine a_iload_n F 2 dX12_roll_120 rfl rfl ?_
                          exact k _ (by rw [if_pos c_19] <;> rfl)
                        · refine a_iload_n F 1 dX12_roll_116 rfl rfl ?_
                          refine a_goto (tgt := 121) F dX12_roll_117 (by decide) ?_
                          exact k _ (by rw [if_neg c_19] <;> rfl)
                      rintro _ rfl
                      refine a_puti F fl_12_230 rfl rfl rfl rfl (by decide) rfl dX12_roll_121 ?_
                      refine a_aload_n F 0 dX12_roll_124 rfl rfl ?_
                      refine a_iload_n F 1 dX12_roll_125 rfl rfl ?_
                      refine a_iload_n F 2 dX12_roll_126 rfl rfl ?_
                      suffices k : ∀ z9 : Int32, z9 = (if x1 ≤ x2 then x1 else x2) → WA X (mS (up2 (up2 (up2 I 0 0 0) 0 25 ((I 0 25) + 1)) 0 28 (if x1 ≤ x2 then x2 else x1)) A J) plM 0 0 135 [(0, .ref 0), (1, .int x1), (2, .int x2)] [.int z9, .ref 0] by
                        refine a_icmp_le (tgt := 134) F dX12_roll_127 (by decide) (fun (c_20 : x1 ≤ x2) => ?_) (fun (c_20 : ¬ (x1 ≤ x2)) => ?_)
                        · refine a_iload_n F 1 dX12_roll_134 rfl rfl ?_
                          exact k _ (by rw [if_pos c_20] <;> rfl)
                        · refine a_iload_n F 2 dX12_roll_130 rfl rfl ?_
                          refine a_goto (tgt := 135) F dX12_roll_131 (by decide) ?_
                          exact k _ (by rw [if_neg c_20] <;> rfl)
                      rintro _ rfl
                      refine a_puti F fl_12_233 rfl rfl rfl rfl (by decide) rfl dX12_roll_135 ?_
                      refine a_aload_n F 0 dX12_roll_138 rfl rfl ?_
                      refine a_iconst (v := 3) F dX12_roll_139 (by decide) ?_
                      refine a_puti F fl_12_227 rfl rfl rfl rfl (by decide) rfl dX12_roll_140 ?_
                      refine a_iconst (v := 3) F dX12_roll_143 (by decide) ?_
                      exact a_iret F E dX12_roll_144 (Nat.le_refl 0) (Nat.le_refl 0) (e_4 c_1 c_3 c_6 c_14)
                    · exact absurd c_18 c_6
                  · exact absurd c_17 c_6
                · exact absurd c_16 (by decide)
      · refine a_if_eq (tgt := 24) F dX12_roll_17 (by decide) (fun (c_21 : (0 : Int32) = 0) => ?_) (fun (c_21 : ¬ ((0 : Int32) = 0)) => ?_)
        · refine a_iconst (v := 0) F dX12_roll_24 (by decide) ?_
          refine a_iconst (v := 1) F dX12_roll_25 (by decide) ?_
          refine a_callV (b := 0) (As := [.int 0, .int 1]) (st := []) (ci := 12) F (c_may0 (xl X) (up2 I 0 0 0) A J (1 : Int32) (by decide) rfl) ml_12_155 im_yX12_may se_yX12_may (by decide) (by decide) rfl (by decide) rfl rfl dX12_roll_26 (by decide) (Nat.le_refl 0) (Nat.le_refl 0) (hl_r (by decide) (hl_i (hl_i hl_nil))) hs_nil ?_
          rintro _ _ _ ⟨rfl, rfl, rfl⟩ _
          show WA X (mS (up2 (up2 I 0 0 0) 0 0 (1 : Int32)) A J) plM 0 0 29 [(0, .ref 0), (1, .int x1), (2, .int x2)] [.int 0]
          refine a_if_eq (tgt := 61) F dX12_roll_29 (by decide) (fun (c_22 : (0 : Int32) = 0) => ?_) (fun (c_22 : ¬ ((0 : Int32) = 0)) => ?_)
          · refine a_iconst (v := 0) F dX12_roll_61 (by decide) ?_
            exact a_iret F E dX12_roll_62 (Nat.le_refl 0) (Nat.le_refl 0) (e_5 c_1 c_3)
          · exact absurd c_22 (by decide)
        · exact absurd c_21 (by decide)
  · refine a_if_eq (tgt := 24) F dX12_roll_10 (by decide) (fun (c_23 : (0 : Int32) = 0) => ?_) (fun (c_23 : ¬ ((0 : Int32) = 0)) => ?_)
    · refine a_iconst (v := 0) F dX12_roll_24 (by decide) ?_
      refine a_iconst (v := 1) F dX12_roll_25 (by decide) ?_
      refine a_callV (b := 0) (As := [.int 0, .int 1]) (st := []) (ci := 12) F (c_may0 (xl X) (up2 I 0 0 0) A J (1 : Int32) (by decide) rfl) ml_12_155 im_yX12_may se_yX12_may (by decide) (by decide) rfl (by decide) rfl rfl dX12_roll_26 (by decide) (Nat.le_refl 0) (Nat.le_refl 0) (hl_r (by decide) (hl_i (hl_i hl_nil))) hs_nil ?_
      rintro _ _ _ ⟨rfl, rfl, rfl⟩ _
      show WA X (mS (up2 (up2 I 0 0 0) 0 0 (1 : Int32)) A J) plM 0 0 29 [(0, .ref 0), (1, .int x1), (2, .int x2)] [.int 0]
      refine a_if_eq (tgt := 61) F dX12_roll_29 (by decide) (fun (c_24 : (0 : Int32) = 0) => ?_) (fun (c_24 : ¬ ((0 : Int32) = 0)) => ?_)
      · refine a_iconst (v := 0) F dX12_roll_61 (by decide) ?_
        exact a_iret F E dX12_roll_62 (Nat.le_refl 0) (Nat.le_refl 0) (e_6 c_1)
      · exact absurd c_24 (by decide)
    · exact absurd c_23 (by decide)

set_option maxRecDepth 10000 in
theorem c_roll (l : Launch) (I A : Nat → Nat → Int32) (J : Nat → Nat → Int64) (a b : Int32) : Con l 2 yX12_roll cX12_roll 3 (some .int) [.ref 0, .int a, .int b] (mS I A J) plM 0 0 (if 1 ≤ a ∧ a ≤ 6 ∧ 1 ≤ b ∧ b ≤ 6 then (if I 0 20 = 1 ∨ I 0 20 = 2 then PM (some (.int (if I 0 20 = 1 ∧ a = b then 1 else 3))) (rollI I a b) A J else PM (some (.int 0)) (up2 I 0 0 2) A J) else PM (some (.int 0)) (up2 I 0 0 1) A J) := by
  refine Con.of (by decide) (Nat.le_of_ble_eq_true rfl) (fun X hX9 hn9 F E => ?_)
  refine r_12_roll_0 F E ?_ ?_ ?_ ?_ ?_ ?_ <;> (clear F E hn9 hX9; (try clear X); intros <;> first | (simp_all [PM, up2_up2, rollI]; done) | (simp_all [PM, up2_up2, rollI]; grind))

theorem r_12_offer_0 {X : Ctx} (F : Fx X cX12_offer RX12 1 2 0 0) {Φ : Option Value → HS → List Nat → Prop} (E : Ex X (some .int) 0 0 Φ) {I A : Nat → Nat → Int32} {J : Nat → Nat → Int64}
    (e_1 : (¬ (I 0 20) = 2) → Φ (some (.int 0)) (mS (up2 (up2 I 0 0 0) 0 0 (1 : Int32)) A J) plM)
    (e_2 : ((I 0 20) = 2) → ((I 0 23) = (-1)) → (64 ≤ (I 0 22)) → Φ (some (.int 0)) (mS (up2 (up2 I 0 0 0) 0 0 (1 : Int32)) A J) plM)
    (e_3 : ((I 0 20) = 2) → ((I 0 23) = (-1)) → (¬ (64 ≤ (I 0 22))) → (¬ (I 0 31) = 0) → Φ (some (.int 0)) (mS (up2 (up2 I 0 0 0) 0 0 (1 : Int32)) A J) plM)
    (e_4 : ((I 0 20) = 2) → ((I 0 23) = (-1)) → (¬ (64 ≤ (I 0 22))) → ((I 0 31) = 0) → Φ (some (.int (2 * (I 0 22)))) (mS (up2 (up2 I 0 0 0) 0 20 4) A J) plM)
    (e_5 : ((I 0 20) = 2) → (¬ ((I 0 23) = (-1))) → (¬ (I 0 23) = (I 0 2)) → Φ (some (.int 0)) (mS (up2 (up2 I 0 0 0) 0 0 (1 : Int32)) A J) plM)
    (e_6 : ((I 0 20) = 2) → (¬ ((I 0 23) = (-1))) → ((I 0 23) = (I 0 2)) → (64 ≤ (I 0 22)) → Φ (some (.int 0)) (mS (up2 (up2 I 0 0 0) 0 0 (1 : Int32)) A J) plM)
    (e_7 : ((I 0 20) = 2) → (¬ ((I 0 23) = (-1))) → ((I 0 23) = (I 0 2)) → (¬ (64 ≤ (I 0 22))) → (¬ (I 0 31) = 0) → Φ (some (.int 0)) (mS (up2 (up2 I 0 0 0) 0 0 (1 : Int32)) A J) plM)
    (e_8 : ((I 0 20) = 2) → (¬ ((I 0 23) = (-1))) → ((I 0 23) = (I 0 2)) → (¬ (64 ≤ (I 0 22))) → ((I 0 31) = 0) → Φ (some (.int (2 * (I 0 22)))) (mS (up2 (up2 I 0 0 0) 0 20 4) A J) plM) :
    WA X (mS I A J) plM 0 0 0 [(0, .ref 0)] [] := by
  refine a_aload_n F 0 dX12_offer_0 rfl rfl ?_
  refine a_iconst (v := 0) F dX12_offer_1 (by decide) ?_
  refine a_puti F fl_12_1 rfl rfl rfl rfl (by decide) rfl dX12_offer_2 ?_
  refine a_aload_n F 0 dX12_offer_5 rfl rfl ?_
  refine a_aload_n F 0 dX12_offer_6 rfl rfl ?_
  refine a_geti F fl_12_227 rfl (by decide) rfl dX12_offer_7 ?_
  refine a_iconst (v := 2) F dX12_offer_10 (by decide) ?_
  refine a_icmp_ne (tgt := 53) F dX12_offer_11 (by decide) (fun (c_1 : ¬ (I 0 20) = 2) => ?_) (fun (c_1 : (I 0 20) = 2) => ?_)
  · refine a_iconst (v := 0) F dX12_offer_53 (by decide) ?_
    refine a_iconst (v := 1) F dX12_offer_54 (by decide) ?_
    refine a_callV (b := 0) (As := [.int 0, .int 1]) (st := []) (ci := 12) F (c_may0 (xl X) (up2 I 0 0 0) A J (1 : Int32) (by decide) rfl) ml_12_155 im_yX12_may se_yX12_may (by decide) (by decide) rfl (by decide) rfl rfl dX12_offer_55 (by decide) (Nat.le_refl 0) (Nat.le_refl 0) (hl_r (by decide) hl_nil) hs_nil ?_
    rintro _ _ _ ⟨rfl, rfl, rfl⟩ _
    show WA X (mS (up2 (up2 I 0 0 0) 0 0 (1 : Int32)) A J) plM 0 0 58 [(0, .ref 0)] [.int 0]
    refine a_if_ne (tgt := 63) F dX12_offer_58 (by decide) (fun (c_2 : ¬ (0 : Int32) = 0) => ?_) (fun (c_2 : (0 : Int32) = 0) => ?_)
    · exact absurd c_2 (by decide)
    · refine a_iconst (v := 0) F dX12_offer_61 (by decide) ?_
      exact a_iret F E dX12_offer_62 (Nat.le_refl 0) (Nat.le_refl 0) (e_1 c_1)
  · refine a_aload_n F 0 dX12_offer_14 rfl rfl ?_
    refine a_geti F fl_12_48 rfl (by decide) rfl dX12_offer_15 ?_
    refine a_iconst (v := (-1)) F dX12_offer_18 (by decide) ?_
    refine a_icmp_eq (tgt := 33) F dX12_offer_19 (by decide) (fun (c_3 : (I 0 23) = (-1)) => ?_) (fun (c_3 : ¬ ((I 0 23) = (-1))) => ?_)
    · refine a_aload_n F 0 dX12_offer_33 rfl rfl ?_
      refine a_geti F fl_12_45 rfl (by decide) rfl dX12_offer_34 ?_
      refine a_bipush (v := 64) F dX12_offer_37 (by decide) ?_
      refine a_icmp_ge (tgt := 53) F dX12_offer_39 (by decide) (fun (c_4 : 64 ≤ (I 0 22)) => ?_) (fun (c_4 : ¬ (64 ≤ (I 0 22))) => ?_)
      · refine a_iconst (v := 0) F dX12_offer_53 (by decide) ?_
        refine a_iconst (v := 1) F dX12_offer_54 (by decide) ?_
        refine a_callV (b := 0) (As := [.int 0, .int 1]) (st := []) (ci := 12) F (c_may0 (xl X) (up2 I 0 0 0) A J (1 : Int32) (by decide) rfl) ml_12_155 im_yX12_may se_yX12_may (by decide) (by decide) rfl (by decide) rfl rfl dX12_offer_55 (by decide) (Nat.le_refl 0) (Nat.le_refl 0) (hl_r (by decide) hl_nil) hs_nil ?_
        rintro _ _ _ ⟨rfl, rfl, rfl⟩ _
        show WA X (mS (up2 (up2 I 0 0 0) 0 0 (1 : Int32)) A J) plM 0 0 58 [(0, .ref 0)] [.int 0]
        refine a_if_ne (tgt := 63) F dX12_offer_58 (by decide) (fun (c_5 : ¬ (0 : Int32) = 0) => ?_) (fun (c_5 : (0 : Int32) = 0) => ?_)
        · exact absurd c_5 (by decide)
        · refine a_iconst (v := 0) F dX12_offer_61 (by decide) ?_
          exact a_iret F E dX12_offer_62 (Nat.le_refl 0) (Nat.le_refl 0) (e_2 c_1 c_3 c_4)
      · refine a_aload_n F 0 dX12_offer_42 rfl rfl ?_
        refine a_geti F fl_12_284 rfl (by decide) rfl dX12_offer_43 ?_
        refine a_if_ne (tgt := 53) F dX12_offer_46 (by decide) (fun (c_6 : ¬ (I 0 31) = 0) => ?_) (fun (c_6 : (I 0 31) = 0) => ?_)
        · refine a_iconst (v := 0) F dX12_offer_53 (by decide) ?_
          refine a_iconst (v := 1) F dX12_offer_54 (by decide) ?_
          refine a_callV (b := 0) (As := [.int 0, .int 1]) (st := []) (ci := 12) F (c_may0 (xl X) (up2 I 0 0 0) A J (1 : Int32) (by decide) rfl) ml_12_155 im_yX12_may se_yX12_may (by decide) (by decide) rfl (by decide) rfl rfl dX12_offer_55 (by decide) (Nat.le_refl 0) (Nat.le_refl 0) (hl_r (by decide) hl_nil) hs_nil ?_
          rintro _ _ _ ⟨rfl, rfl, rfl⟩ _
          show WA X (mS (up2 (up2 I 0 0 0) 0 0 (1 : Int32)) A J) plM 0 0 58 [(0, .ref 0)] [.int 0]
          refine a_if_ne (tgt := 63) F dX12_offer_58 (by decide) (fun (c_7 : ¬ (0 : Int32) = 0) => ?_) (fun (c_7 : (0 : Int32) = 0) => ?_)
          · exact absurd c_7 (by decide)
          · refine a_iconst (v := 0) F dX12_offer_61 (by decide) ?_
            exact a_iret F E dX12_offer_62 (Nat.le_refl 0) (Nat.le_refl 0) (e_3 c_1 c_3 c_4 c_6)
        · refine a_iconst (v := 1) F dX12_offer_49 (by decide) ?_
          refine a_goto (tgt := 54) F dX12_offer_50 (by decide) ?_
          refine a_iconst (v := 1) F dX12_offer_54 (by decide) ?_
          refine a_callV (b := 0) (As := [.int 1, .int 1]) (st := []) (ci := 12) F (c_may1 (xl X) (up2 I 0 0 0) A J (1 : Int32) (by decide) rfl) ml_12_155 im_yX12_may se_yX12_may (by decide) (by decide) rfl (by decide) rfl rfl dX12_offer_55 (by decide) (Nat.le_refl 0) (Nat.le_refl 0) (hl_r (by decide) hl_nil) hs_nil ?_
          rintro _ _ _ ⟨rfl, rfl, rfl⟩ _
          show WA X (mS (up2 I 0 0 0) A J) plM 0 0 58 [(0, .ref 0)] [.int 1]
          refine a_if_ne (tgt := 63) F dX12_offer_58 (by decide) (fun (c_8 : ¬ (1 : Int32) = 0) => ?_) (fun (c_8 : (1 : Int32) = 0) => ?_)
          · refine a_aload_n F 0 dX12_offer_63 rfl rfl ?_
            refine a_iconst (v := 4) F dX12_offer_64 (by decide) ?_
            refine a_puti F fl_12_227 rfl rfl rfl rfl (by decide) rfl dX12_offer_65 ?_
            refine a_iconst (v := 2) F dX12_offer_68 (by decide) ?_
            refine a_aload_n F 0 dX12_offer_69 rfl rfl ?_
            refine a_geti F fl_12_45 rfl (by decide) rfl dX12_offer_70 ?_
            refine a_imul F dX12_offer_73 ?_
            exact a_iret F E dX12_offer_74 (Nat.le_refl 0) (Nat.le_refl 0) (e_4 c_1 c_3 c_4 c_6)
          · exact absurd c_8 (by decide)
    · refine a_aload_n F 0 dX12_offer_22 rfl rfl ?_
      refine a_geti F fl_12_48 rfl (by decide) rfl dX12_offer_23 ?_
      refine a_aload_n F 0 dX12_offer_26 rfl rfl ?_
      refine a_geti F fl_12_149 rfl (by decide) rfl dX12_offer_27 ?_
      refine a_icmp_ne (tgt := 53) F dX12_offer_30 (by decide) (fun (c_9 : ¬ (I 0 23) = (I 0 2)) => ?_) (fun (c_9 : (I 0 23) = (I 0 2)) => ?_)
      · refine a_iconst (v := 0) F dX12_offer_53 (by decide) ?_
        refine a_iconst (v := 1) F dX12_offer_54 (by decide) ?_
        refine a_callV (b := 0) (As := [.int 0, .int 1]) (st := []) (ci := 12) F (c_may0 (xl X) (up2 I 0 0 0) A J (1 : Int32) (by decide) rfl) ml_12_155 im_yX12_may se_yX12_may (by decide) (by decide) rfl (by decide) rfl rfl dX12_offer_55 (by decide) (Nat.le_refl 0) (Nat.le_refl 0) (hl_r (by decide) hl_nil) hs_nil ?_
        rintro _ _ _ ⟨rfl, rfl, rfl⟩ _
        show WA X (mS (up2 (up2 I 0 0 0) 0 0 (1 : Int32)) A J) plM 0 0 58 [(0, .ref 0)] [.int 0]
        refine a_if_ne (tgt := 63) F dX12_offer_58 (by decide) (fun (c_10 : ¬ (0 : Int32) = 0) => ?_) (fun (c_10 : (0 : Int32) = 0) => ?_)
        · exact absurd c_10 (by decide)
        · refine a_iconst (v := 0) F dX12_offer_61 (by decide) ?_
          exact a_iret F E dX12_offer_62 (Nat.le_refl 0) (Nat.le_refl 0) (e_5 c_1 c_3 c_9)
      · refine a_aload_n F 0 dX12_offer_33 rfl rfl ?_
        refine a_geti F fl_12_45 rfl (by decide) rfl dX12_offer_34 ?_
        refine a_bipush (v := 64) F dX12_offer_37 (by decide) ?_
        refine a_icmp_ge (tgt := 53) F dX12_offer_39 (by decide) (fun (c_11 : 64 ≤ (I 0 22)) => ?_) (fun (c_11 : ¬ (64 ≤ (I 0 22))) => ?_)
        · refine a_iconst (v := 0) F dX12_offer_53 (by decide) ?_
          refine a_iconst (v := 1) F dX12_offer_54 (by decide) ?_
          refine a_callV (b := 0) (As := [.int 0, .int 1]) (st := []) (ci := 12) F (c_may0 (xl X) (up2 I 0 0 0) A J (1 : Int32) (by decide) rfl) ml_12_155 im_yX12_may se_yX12_may (by decide) (by decide) rfl (by decide) rfl rfl dX12_offer_55 (by decide) (Nat.le_refl 0) (Nat.le_refl 0) (hl_r (by decide) hl_nil) hs_nil ?_
          rintro _ _ _ ⟨rfl, rfl, rfl⟩ _
          show WA X (mS (up2 (up2 I 0 0 0) 0 0 (1 : Int32)) A J) plM 0 0 58 [(0, .ref 0)] [.int 0]
          refine a_if_ne (tgt := 63) F dX12_offer_58 (by decide) (fun (c_12 : ¬ (0 : Int32) = 0) => ?_) (fun (c_12 : (0 : Int32) = 0) => ?_)
          · exact absurd c_12 (by decide)
          · refine a_iconst (v := 0) F dX12_offer_61 (by decide) ?_
            exact a_iret F E dX12_offer_62 (Nat.le_refl 0) (Nat.le_refl 0) (e_6 c_1 c_3 c_9 c_11)
        · refine a_aload_n F 0 dX12_offer_42 rfl rfl ?_
          refine a_geti F fl_12_284 rfl (by decide) rfl dX12_offer_43 ?_
          refine a_if_ne (tgt := 53) F dX12_offer_46 (by decide) (fun (c_13 : ¬ (I 0 31) = 0) => ?_) (fun (c_13 : (I 0 31) = 0) => ?_)
          · refine a_iconst (v := 0) F dX12_offer_53 (by decide) ?_
            refine a_iconst (v := 1) F dX12_offer_54 (by decide) ?_
            refine a_callV (b := 0) (As := [.int 0, .int 1]) (st := []) (ci := 12) F (c_may0 (xl X) (up2 I 0 0 0) A J (1 : Int32) (by decide) rfl) ml_12_155 im_yX12_may se_yX12_may (by decide) (by decide) rfl (by decide) rfl rfl dX12_offer_55 (by decide) (Nat.le_refl 0) (Nat.le_refl 0) (hl_r (by decide) hl_nil) hs_nil ?_
            rintro _ _ _ ⟨rfl, rfl, rfl⟩ _
            show WA X (mS (up2 (up2 I 0 0 0) 0 0 (1 : Int32)) A J) plM 0 0 58 [(0, .ref 0)] [.int 0]
            refine a_if_ne (tgt := 63) F dX12_offer_58 (by decide) (fun (c_14 : ¬ (0 : Int32) = 0) => ?_) (fun (c_14 : (0 : Int32) = 0) => ?_)
            · exact absurd c_14 (by decide)
            · refine a_iconst (v := 0) F dX12_offer_61 (by decide) ?_
              exact a_iret F E dX12_offer_62 (Nat.le_refl 0) (Nat.le_refl 0) (e_7 c_1 c_3 c_9 c_11 c_13)
          · refine a_iconst (v := 1) F dX12_offer_49 (by decide) ?_
            refine a_goto (tgt := 54) F dX12_offer_50 (by decide) ?_
            refine a_iconst (v := 1) F dX12_offer_54 (by decide) ?_
            refine a_callV (b := 0) (As := [.int 1, .int 1]) (st := []) (ci := 12) F (c_may1 (xl X) (up2 I 0 0 0) A J (1 : Int32) (by decide) rfl) ml_12_155 im_yX12_may se_yX12_may (by decide) (by decide) rfl (by decide) rfl rfl dX12_offer_55 (by decide) (Nat.le_refl 0) (Nat.le_refl 0) (hl_r (by decide) hl_nil) hs_nil ?_
            rintro _ _ _ ⟨rfl, rfl, rfl⟩ _
            show WA X (mS (up2 I 0 0 0) A J) plM 0 0 58 [(0, .ref 0)] [.int 1]
            refine a_if_ne (tgt := 63) F dX12_offer_58 (by decide) (fun (c_15 : ¬ (1 : Int32) = 0) => ?_) (fun (c_15 : (1 : Int32) = 0) => ?_)
            · refine a_aload_n F 0 dX12_offer_63 rfl rfl ?_
              refine a_iconst (v := 4) F dX12_offer_64 (by decide) ?_
              refine a_puti F fl_12_227 rfl rfl rfl rfl (by decide) rfl dX12_offer_65 ?_
              refine a_iconst (v := 2) F dX12_offer_68 (by decide) ?_
              refine a_aload_n F 0 dX12_offer_69 rfl rfl ?_
              refine a_geti F fl_12_45 rfl (by decide) rfl dX12_offer_70 ?_
              refine a_imul F dX12_offer_73 ?_
              exact a_iret F E dX12_offer_74 (Nat.le_refl 0) (Nat.le_refl 0) (e_8 c_1 c_3 c_9 c_11 c_13)
            · exact absurd c_15 (by decide)

set_option maxRecDepth 10000 in
theorem c_offer (l : Launch) (I A : Nat → Nat → Int32) (J : Nat → Nat → Int64) : Con l 2 yX12_offer cX12_offer 1 (some .int) [.ref 0] (mS I A J) plM 0 0 (if I 0 20 = 2 ∧ (I 0 23 = -1 ∨ I 0 23 = I 0 2) ∧ I 0 22 < 64 ∧ I 0 31 = 0 then PM (some (.int (2 * I 0 22))) (up2 (up2 I 0 0 0) 0 20 4) A J else PM (some (.int 0)) (up2 I 0 0 1) A J) := by
  refine Con.of (by decide) (Nat.le_of_ble_eq_true rfl) (fun X hX9 hn9 F E => ?_)
  refine r_12_offer_0 F E ?_ ?_ ?_ ?_ ?_ ?_ ?_ ?_ <;> (clear F E hn9 hX9; (try clear X); intros <;> first | (rw [if_pos (show I 0 20 = 2 ∧ (I 0 23 = -1 ∨ I 0 23 = I 0 2) ∧ I 0 22 < 64 ∧ I 0 31 = 0 by grind)]; exact ⟨rfl, by first | rfl | rw [up2_up2], rfl⟩) | (rw [if_neg (show ¬ (I 0 20 = 2 ∧ (I 0 23 = -1 ∨ I 0 23 = I 0 2) ∧ I 0 22 < 64 ∧ I 0 31 = 0) by grind)]; exact ⟨rfl, by first | rfl | rw [up2_up2], rfl⟩))

theorem r_12_match_0 {X : Ctx} (F : Fx X cX12_match RX12 2 2 0 0) {Φ : Option Value → HS → List Nat → Prop} (E : Ex X (some .int) 0 0 Φ) {I A : Nat → Nat → Int32} {J : Nat → Nat → Int64} {x1 : Int32}
    (e_1 : (x1 < 0) → Φ (some (.int 0)) (mS (up2 (up2 I 0 0 0) 0 0 (1 : Int32)) A J) plM)
    (e_2 : (¬ (x1 < 0)) → (11 < x1) → Φ (some (.int 0)) (mS (up2 (up2 I 0 0 0) 0 0 (1 : Int32)) A J) plM)
    (e_3 : (¬ (x1 < 0)) → (¬ (11 < x1)) → (x1 = 0) → Φ (some (.int (I 0 20))) (mS (up2 I 0 0 0) A J) plM)
    (o_4 : (¬ (x1 < 0)) → (¬ (11 < x1)) → (¬ x1 = 0) → (x1 = 1) → vp_in (x1 - 1) 2)
    (e_5 : (¬ (x1 < 0)) → (¬ (11 < x1)) → (¬ x1 = 0) → (x1 = 1) → Φ (some (.int (A 30 (x1 - 1).toNatClampNeg))) (mS (up2 I 0 0 0) A J) plM)
    (o_6 : (¬ (x1 < 0)) → (¬ (11 < x1)) → (¬ x1 = 0) → (¬ x1 = 1) → (x1 = 2) → vp_in (x1 - 1) 2)
    (e_7 : (¬ (x1 < 0)) → (¬ (11 < x1)) → (¬ x1 = 0) → (¬ x1 = 1) → (x1 = 2) → Φ (some (.int (A 30 (x1 - 1).toNatClampNeg))) (mS (up2 I 0 0 0) A J) plM)
    (e_8 : (¬ (x1 < 0)) → (¬ (11 < x1)) → (¬ x1 = 0) → (¬ x1 = 1) → (¬ x1 = 2) → (x1 = 3) → Φ (some (.int (I 0 22))) (mS (up2 I 0 0 0) A J) plM)
    (e_9 : (¬ (x1 < 0)) → (¬ (11 < x1)) → (¬ x1 = 0) → (¬ x1 = 1) → (¬ x1 = 2) → (¬ x1 = 3) → (x1 = 4) → Φ (some (.int (I 0 23))) (mS (up2 I 0 0 0) A J) plM)
    (e_10 : (¬ (x1 < 0)) → (¬ (11 < x1)) → (¬ x1 = 0) → (¬ x1 = 1) → (¬ x1 = 2) → (¬ x1 = 3) → (¬ x1 = 4) → (x1 = 5) → ((I 0 31) = 0) → Φ (some (.int 0)) (mS (up2 I 0 0 0) A J) plM)
    (e_11 : (¬ (x1 < 0)) → (¬ (11 < x1)) → (¬ x1 = 0) → (¬ x1 = 1) → (¬ x1 = 2) → (¬ x1 = 3) → (¬ x1 = 4) → (x1 = 5) → (¬ ((I 0 31) = 0)) → Φ (some (.int 1)) (mS (up2 I 0 0 0) A J) plM)
    (e_12 : (¬ (x1 < 0)) → (¬ (11 < x1)) → (¬ x1 = 0) → (¬ x1 = 1) → (¬ x1 = 2) → (¬ x1 = 3) → (¬ x1 = 4) → (¬ x1 = 5) → (x1 = 6) → Φ (some (.int (I 0 24))) (mS (up2 I 0 0 0) A J) plM)
    (e_13 : (¬ (x1 < 0)) → (¬ (11 < x1)) → (¬ x1 = 0) → (¬ x1 = 1) → (¬ x1 = 2) → (¬ x1 = 3) → (¬ x1 = 4) → (¬ x1 = 5) → (¬ x1 = 6) → (x1 = 7) → Φ (some (.int (I 0 25))) (mS (up2 I 0 0 0) A J) plM)
    (e_14 : (¬ (x1 < 0)) → (¬ (11 < x1)) → (¬ x1 = 0) → (¬ x1 = 1) → (¬ x1 = 2) → (¬ x1 = 3) → (¬ x1 = 4) → (¬ x1 = 5) → (¬ x1 = 6) → (¬ x1 = 7) → (x1 = 8) → Φ (some (.int (I 0 26))) (mS (up2 I 0 0 0) A J) plM)
    (e_15 : (¬ (x1 < 0)) → (¬ (11 < x1)) → (¬ x1 = 0) → (¬ x1 = 1) → (¬ x1 = 2) → (¬ x1 = 3) → (¬ x1 = 4) → (¬ x1 = 5) → (¬ x1 = 6) → (¬ x1 = 7) → (¬ x1 = 8) → (x1 = 9) → Φ (some (.int (I 0 27))) (mS (up2 I 0 0 0) A J) plM)
    (e_16 : (¬ (x1 < 0)) → (¬ (11 < x1)) → (¬ x1 = 0) → (¬ x1 = 1) → (¬ x1 = 2) → (¬ x1 = 3) → (¬ x1 = 4) → (¬ x1 = 5) → (¬ x1 = 6) → (¬ x1 = 7) → (¬ x1 = 8) → (¬ x1 = 9) → (x1 = 10) → (¬ (I 0 20) = 3) → Φ (some (.int 0)) (mS (up2 I 0 0 0) A J) plM)
    (e_17 : (¬ (x1 < 0)) → (¬ (11 < x1)) → (¬ x1 = 0) → (¬ x1 = 1) → (¬ x1 = 2) → (¬ x1 = 3) → (¬ x1 = 4) → (¬ x1 = 5) → (¬ x1 = 6) → (¬ x1 = 7) → (¬ x1 = 8) → (¬ x1 = 9) → (x1 = 10) → ((I 0 20) = 3) → Φ (some (.int (I 0 28))) (mS (up2 I 0 0 0) A J) plM)
    (e_18 : (¬ (x1 < 0)) → (¬ (11 < x1)) → (¬ x1 = 0) → (¬ x1 = 1) → (¬ x1 = 2) → (¬ x1 = 3) → (¬ x1 = 4) → (¬ x1 = 5) → (¬ x1 = 6) → (¬ x1 = 7) → (¬ x1 = 8) → (¬ x1 = 9) → (¬ x1 = 10) → (¬ (I 0 20) = 3) → Φ (some (.int 0)) (mS (up2 I 0 0 0) A J) plM)
    (e_19 : (¬ (x1 < 0)) → (¬ (11 < x1)) → (¬ x1 = 0) → (¬ x1 = 1) → (¬ x1 = 2) → (¬ x1 = 3) → (¬ x1 = 4) → (¬ x1 = 5) → (¬ x1 = 6) → (¬ x1 = 7) → (¬ x1 = 8) → (¬ x1 = 9) → (¬ x1 = 10) → ((I 0 20) = 3) → Φ (some (.int (I 0 29))) (mS (up2 I 0 0 0) A J) plM) :
    WA X (mS I A J) plM 0 0 0 [(0, .ref 0), (1, .int x1)] [] := by
  refine a_aload_n F 0 dX12_match_0 rfl rfl ?_
  refine a_iconst (v := 0) F dX12_match_1 (by decide) ?_
  refine a_puti F fl_12_1 rfl rfl rfl rfl (by decide) rfl dX12_match_2 ?_
  refine a_aload_n F 0 dX12_match_5 rfl rfl ?_
  refine a_iload_n F 1 dX12_match_6 rfl rfl ?_
  refine a_if_lt (tgt := 20) F dX12_match_7 (by decide) (fun (c_1 : x1 < 0) => ?_) (fun (c_1 : ¬ (x1 < 0)) => ?_)
  · refine a_iconst (v := 0) F dX12_match_20 (by decide) ?_
    refine a_iconst (v := 1) F dX12_match_21 (by decide) ?_
    refine a_callV (b := 0) (As := [.int 0, .int 1]) (st := []) (ci := 12) F (c_may0 (xl X) (up2 I 0 0 0) A J (1 : Int32) (by decide) rfl) ml_12_155 im_yX12_may se_yX12_may (by decide) (by decide) rfl (by decide) rfl rfl dX12_match_22 (by decide) (Nat.le_refl 0) (Nat.le_refl 0) (hl_r (by decide) (hl_i hl_nil)) hs_nil ?_
    rintro _ _ _ ⟨rfl, rfl, rfl⟩ _
    show WA X (mS (up2 (up2 I 0 0 0) 0 0 (1 : Int32)) A J) plM 0 0 25 [(0, .ref 0), (1, .int x1)] [.int 0]
    refine a_if_ne (tgt := 30) F dX12_match_25 (by decide) (fun (c_2 : ¬ (0 : Int32) = 0) => ?_) (fun (c_2 : (0 : Int32) = 0) => ?_)
    · exact absurd c_2 (by decide)
    · refine a_iconst (v := 0) F dX12_match_28 (by decide) ?_
      exact a_iret F E dX12_match_29 (Nat.le_refl 0) (Nat.le_refl 0) (e_1 c_1)
  · refine a_iload_n F 1 dX12_match_10 rfl rfl ?_
    refine a_bipush (v := 11) F dX12_match_11 (by decide) ?_
    refine a_icmp_gt (tgt := 20) F dX12_match_13 (by decide) (fun (c_3 : 11 < x1) => ?_) (fun (c_3 : ¬ (11 < x1)) => ?_)
    · refine a_iconst (v := 0) F dX12_match_20 (by decide) ?_
      refine a_iconst (v := 1) F dX12_match_21 (by decide) ?_
      refine a_callV (b := 0) (As := [.int 0, .int 1]) (st := []) (ci := 12) F (c_may0 (xl X) (up2 I 0 0 0) A J (1 : Int32) (by decide) rfl) ml_12_155 im_yX12_may se_yX12_may (by decide) (by decide) rfl (by decide) rfl rfl dX12_match_22 (by decide) (Nat.le_refl 0) (Nat.le_refl 0) (hl_r (by decide) (hl_i hl_nil)) hs_nil ?_
      rintro _ _ _ ⟨rfl, rfl, rfl⟩ _
      show WA X (mS (up2 (up2 I 0 0 0) 0 0 (1 : Int32)) A J) plM 0 0 25 [(0, .ref 0), (1, .int x1)] [.int 0]
      refine a_if_ne (tgt := 30) F dX12_match_25 (by decide) (fun (c_4 : ¬ (0 : Int32) = 0) => ?_) (fun (c_4 : (0 : Int32) = 0) => ?_)
      · exact absurd c_4 (by decide)
      · refine a_iconst (v := 0) F dX12_match_28 (by decide) ?_
        exact a_iret F E dX12_match_29 (Nat.le_refl 0) (Nat.le_refl 0) (e_2 c_1 c_3)
    · refine a_iconst (v := 1) F dX12_match_16 (by decide) ?_
      refine a_goto (tgt := 21) F dX12_match_17 (by decide) ?_
      refine a_iconst (v := 1) F dX12_match_21 (by decide) ?_
      refine a_callV (b := 0) (As := [.int 1, .int 1]) (st := []) (ci := 12) F (c_may1 (xl X) (up2 I 0 0 0) A J (1 : Int32) (by decide) rfl) ml_12_155 im_yX12_may se_yX12_may (by decide) (by decide) rfl (by decide) rfl rfl dX12_match_22 (by decide) (Nat.le_refl 0) (Nat.le_refl 0) (hl_r (by decide) (hl_i hl_nil)) hs_nil ?_
      rintro _ _ _ ⟨rfl, rfl, rfl⟩ _
      show WA X (mS (up2 I 0 0 0) A J) plM 0 0 25 [(0, .ref 0), (1, .int x1)] [.int 1]
      refine a_if_ne (tgt := 30) F dX12_match_25 (by decide) (fun (c_5 : ¬ (1 : Int32) = 0) => ?_) (fun (c_5 : (1 : Int32) = 0) => ?_)
      · refine a_iload_n F 1 dX12_match_30 rfl rfl ?_
        by_cases c_6 : x1 = 0
        · refine a_tableIn (off := 57) (tgt := 88) F dX12_match_31 (by rw [c_6]; decide) (by rw [c_6]; decide) (by rw [c_6]; rfl) (by decide) ?_
          refine a_aload_n F 0 dX12_match_88 rfl rfl ?_
          refine a_geti F fl_12_227 rfl (by decide) rfl dX12_match_89 ?_
          exact a_iret F E dX12_match_92 (Nat.le_refl 0) (Nat.le_refl 0) (e_3 c_1 c_3 c_6)
        by_cases c_7 : x1 = 1
        · refine a_tableIn (off := 62) (tgt := 93) F dX12_match_31 (by rw [c_7]; decide) (by rw [c_7]; decide) (by rw [c_7]; rfl) (by decide) ?_
          refine a_aload_n F 0 dX12_match_93 rfl rfl ?_
          refine a_getr (b := 30) F fl_12_54 rfl (by decide) rfl rfl dX12_match_94 ?_
          refine a_iload_n F 1 dX12_match_97 rfl rfl ?_
          refine a_iconst (v := 1) F dX12_match_98 (by decide) ?_
          refine a_isub F dX12_match_99 ?_
          refine a_iald F (by decide) rfl (o_4 c_1 c_3 c_6 c_7) dX12_match_100 ?_
          exact a_iret F E dX12_match_101 (Nat.le_refl 0) (Nat.le_refl 0) (e_5 c_1 c_3 c_6 c_7)
        by_cases c_8 : x1 = 2
        · refine a_tableIn (off := 62) (tgt := 93) F dX12_match_31 (by rw [c_8]; decide) (by rw [c_8]; decide) (by rw [c_8]; rfl) (by decide) ?_
          refine a_aload_n F 0 dX12_match_93 rfl rfl ?_
          refine a_getr (b := 30) F fl_12_54 rfl (by decide) rfl rfl dX12_match_94 ?_
          refine a_iload_n F 1 dX12_match_97 rfl rfl ?_
          refine a_iconst (v := 1) F dX12_match_98 (by decide) ?_
          refine a_isub F dX12_match_99 ?_
          refine a_iald F (by decide) rfl (o_6 c_1 c_3 c_6 c_7 c_8) dX12_match_100 ?_
          exact a_iret F E dX12_match_101 (Nat.le_refl 0) (Nat.le_refl 0) (e_7 c_1 c_3 c_6 c_7 c_8)
        by_cases c_9 : x1 = 3
        · refine a_tableIn (off := 71) (tgt := 102) F dX12_match_31 (by rw [c_9]; decide) (by rw [c_9]; decide) (by rw [c_9]; rfl) (by decide) ?_
          refine a_aload_n F 0 dX12_match_102 rfl rfl ?_
          refine a_geti F fl_12_45 rfl (by decide) rfl dX12_match_103 ?_
          exact a_iret F E dX12_match_106 (Nat.le_refl 0) (Nat.le_refl 0) (e_8 c_1 c_3 c_6 c_7 c_8 c_9)
        by_cases c_10 : x1 = 4
        · refine a_tableIn (off := 76) (tgt := 107) F dX12_match_31 (by rw [c_10]; decide) (by rw [c_10]; decide) (by rw [c_10]; rfl) (by decide) ?_
          refine a_aload_n F 0 dX12_match_107 rfl rfl ?_
          refine a_geti F fl_12_48 rfl (by decide) rfl dX12_match_108 ?_
          exact a_iret F E dX12_match_111 (Nat.le_refl 0) (Nat.le_refl 0) (e_9 c_1 c_3 c_6 c_7 c_8 c_9 c_10)
        by_cases c_11 : x1 = 5
        · refine a_tableIn (off := 81) (tgt := 112) F dX12_match_31 (by rw [c_11]; decide) (by rw [c_11]; decide) (by rw [c_11]; rfl) (by decide) ?_
          refine a_aload_n F 0 dX12_match_112 rfl rfl ?_
          refine a_geti F fl_12_284 rfl (by decide) rfl dX12_match_113 ?_
          refine a_if_eq (tgt := 123) F dX12_match_116 (by decide) (fun (c_12 : (I 0 31) = 0) => ?_) (fun (c_12 : ¬ ((I 0 31) = 0)) => ?_)
          · refine a_iconst (v := 0) F dX12_match_123 (by decide) ?_
            exact a_iret F E dX12_match_124 (Nat.le_refl 0) (Nat.le_refl 0) (e_10 c_1 c_3 c_6 c_7 c_8 c_9 c_10 c_11 c_12)
          · refine a_iconst (v := 1) F dX12_match_119 (by decide) ?_
            refine a_goto (tgt := 124) F dX12_match_120 (by decide) ?_
            exact a_iret F E dX12_match_124 (Nat.le_refl 0) (Nat.le_refl 0) (e_11 c_1 c_3 c_6 c_7 c_8 c_9 c_10 c_11 c_12)
        by_cases c_13 : x1 = 6
        · refine a_tableIn (off := 94) (tgt := 125) F dX12_match_31 (by rw [c_13]; decide) (by rw [c_13]; decide) (by rw [c_13]; rfl) (by decide) ?_
          refine a_aload_n F 0 dX12_match_125 rfl rfl ?_
          refine a_geti F fl_12_265 rfl (by decide) rfl dX12_match_126 ?_
          exact a_iret F E dX12_match_129 (Nat.le_refl 0) (Nat.le_refl 0) (e_12 c_1 c_3 c_6 c_7 c_8 c_9 c_10 c_11 c_13)
        by_cases c_14 : x1 = 7
        · refine a_tableIn (off := 99) (tgt := 130) F dX12_match_31 (by rw [c_14]; decide) (by rw [c_14]; decide) (by rw [c_14]; rfl) (by decide) ?_
          refine a_aload_n F 0 dX12_match_130 rfl rfl ?_
          refine a_geti F fl_12_268 rfl (by decide) rfl dX12_match_131 ?_
          exact a_iret F E dX12_match_134 (Nat.le_refl 0) (Nat.le_refl 0) (e_13 c_1 c_3 c_6 c_7 c_8 c_9 c_10 c_11 c_13 c_14)
        by_cases c_15 : x1 = 8
        · refine a_tableIn (off := 104) (tgt := 135) F dX12_match_31 (by rw [c_15]; decide) (by rw [c_15]; decide) (by rw [c_15]; rfl) (by decide) ?_
          refine a_aload_n F 0 dX12_match_135 rfl rfl ?_
          refine a_geti F fl_12_271 rfl (by decide) rfl dX12_match_136 ?_
          exact a_iret F E dX12_match_139 (Nat.le_refl 0) (Nat.le_refl 0) (e_14 c_1 c_3 c_6 c_7 c_8 c_9 c_10 c_11 c_13 c_14 c_15)
        by_cases c_16 : x1 = 9
        · refine a_tableIn (off := 109) (tgt := 140) F dX12_match_31 (by rw [c_16]; decide) (by rw [c_16]; decide) (by rw [c_16]; rfl) (by decide) ?_
          refine a_aload_n F 0 dX12_match_140 rfl rfl ?_
          refine a_geti F fl_12_51 rfl (by decide) rfl dX12_match_141 ?_
          exact a_iret F E dX12_match_144 (Nat.le_refl 0) (Nat.le_refl 0) (e_15 c_1 c_3 c_6 c_7 c_8 c_9 c_10 c_11 c_13 c_14 c_15 c_16)
        by_cases c_17 : x1 = 10
        · refine a_tableIn (off := 114) (tgt := 145) F dX12_match_31 (by rw [c_17]; decide) (by rw [c_17]; decide) (by rw [c_17]; rfl) (by decide) ?_
          refine a_aload_n F 0 dX12_match_145 rfl rfl ?_
          refine a_geti F fl_12_227 rfl (by decide) rfl dX12_match_146 ?_
          refine a_iconst (v := 3) F dX12_match_149 (by decide) ?_
          refine a_icmp_ne (tgt := 160) F dX12_match_150 (by decide) (fun (c_18 : ¬ (I 0 20) = 3) => ?_) (fun (c_18 : (I 0 20) = 3) => ?_)
          · refine a_iconst (v := 0) F dX12_match_160 (by decide) ?_
            exact a_iret F E dX12_match_161 (Nat.le_refl 0) (Nat.le_refl 0) (e_16 c_1 c_3 c_6 c_7 c_8 c_9 c_10 c_11 c_13 c_14 c_15 c_16 c_17 c_18)
          · refine a_aload_n F 0 dX12_match_153 rfl rfl ?_
            refine a_geti F fl_12_230 rfl (by decide) rfl dX12_match_154 ?_
            refine a_goto (tgt := 161) F dX12_match_157 (by decide) ?_
            exact a_iret F E dX12_match_161 (Nat.le_refl 0) (Nat.le_refl 0) (e_17 c_1 c_3 c_6 c_7 c_8 c_9 c_10 c_11 c_13 c_14 c_15 c_16 c_17 c_18)
        refine a_tableOut (tgt := 162) F dX12_match_31 (by have h0 := lv_neT (a := 0) c_6 (by decide); have h1 := lv_neT (a := 1) c_7 (by decide); have h2 := lv_neT (a := 2) c_8 (by decide); have h3 := lv_neT (a := 3) c_9 (by decide); have h4 := lv_neT (a := 4) c_10 (by decide); have h5 := lv_neT (a := 5) c_11 (by decide); have h6 := lv_neT (a := 6) c_13 (by decide); have h7 := lv_neT (a := 7) c_14 (by decide); have h8 := lv_neT (a := 8) c_15 (by decide); have h9 := lv_neT (a := 9) c_16 (by decide); have h10 := lv_neT (a := 10) c_17 (by decide); omega) (by decide) ?_
        refine a_aload_n F 0 dX12_match_162 rfl rfl ?_
        refine a_geti F fl_12_227 rfl (by decide) rfl dX12_match_163 ?_
        refine a_iconst (v := 3) F dX12_match_166 (by decide) ?_
        refine a_icmp_ne (tgt := 177) F dX12_match_167 (by decide) (fun (c_19 : ¬ (I 0 20) = 3) => ?_) (fun (c_19 : (I 0 20) = 3) => ?_)
        · refine a_iconst (v := 0) F dX12_match_177 (by decide) ?_
          exact a_iret F E dX12_match_178 (Nat.le_refl 0) (Nat.le_refl 0) (e_18 c_1 c_3 c_6 c_7 c_8 c_9 c_10 c_11 c_13 c_14 c_15 c_16 c_17 c_19)
        · refine a_aload_n F 0 dX12_match_170 rfl rfl ?_
          refine a_geti F fl_12_233 rfl (by decide) rfl dX12_match_171 ?_
          refine a_goto (tgt := 178) F dX12_match_174 (by decide) ?_
          exact a_iret F E dX12_match_178 (Nat.le_refl 0) (Nat.le_refl 0) (e_19 c_1 c_3 c_6 c_7 c_8 c_9 c_10 c_11 c_13 c_14 c_15 c_16 c_17 c_19)
      · exact absurd c_5 (by decide)

set_option maxRecDepth 10000 in
theorem c_match (l : Launch) (I A : Nat → Nat → Int32) (J : Nat → Nat → Int64) (w : Int32) : Con l 2 yX12_match cX12_match 2 (some .int) [.ref 0, .int w] (mS I A J) plM 0 0 (PM (some (.int (if 0 ≤ w ∧ w ≤ 11 then matchF I A w else 0))) (up2 I 0 0 (if 0 ≤ w ∧ w ≤ 11 then 0 else 1)) A J) := by
  refine Con.of (by decide) (Nat.le_of_ble_eq_true rfl) (fun X hX9 hn9 F E => ?_)
  refine r_12_match_0 F E ?_ ?_ ?_ ?_ ?_ ?_ ?_ ?_ ?_ ?_ ?_ ?_ ?_ ?_ ?_ ?_ ?_ ?_ ?_ <;> (clear F E hn9 hX9; (try clear X); intros <;> first | exact in_i (N := 2) rfl (by grind) | (rw [if_neg (show ¬ (0 ≤ w ∧ w ≤ 11) by grind), if_neg (show ¬ (0 ≤ w ∧ w ≤ 11) by grind)]; exact ⟨rfl, by rw [up2_up2], rfl⟩) | (rw [if_pos (show 0 ≤ w ∧ w ≤ 11 by grind), if_pos (show 0 ≤ w ∧ w ≤ 11 by grind)]; first | (subst_vars; refine ⟨?_, rfl, rfl⟩; first | rfl | (simp_all [matchF]; done)) | (obtain rfl : w = 11 := by grind); refine ⟨?_, rfl, rfl⟩; simp_all [matchF]))

theorem r_12_mayPlay_0 {X : Ctx} (F : Fx X cX12_mayPlay RX12 3 1 0 0) {Φ : Option Value → HS → List Nat → Prop} (E : Ex X (some .boolean) 0 0 Φ) {I A : Nat → Nat → Int32} {J : Nat → Nat → Int64} {x1 x2 : Int32}
    (e_1 : ((I 0 20) = 0) → Φ (some (.int 1)) (mS I A J) plM)
    (e_2 : (¬ ((I 0 20) = 0)) → ((I 0 20) = 6) → Φ (some (.int 1)) (mS I A J) plM)
    (e_3 : (¬ ((I 0 20) = 0)) → (¬ ((I 0 20) = 6)) → (¬ (I 0 20) = 3) → Φ (some (.int 0)) (mS I A J) plM)
    (e_4 : (¬ ((I 0 20) = 0)) → (¬ ((I 0 20) = 6)) → ((I 0 20) = 3) → (¬ x1 = (I 0 28)) → (¬ x1 = (I 0 29)) → Φ (some (.int 0)) (mS I A J) plM)
    (e_5 : (¬ ((I 0 20) = 0)) → (¬ ((I 0 20) = 6)) → ((I 0 20) = 3) → (¬ x1 = (I 0 28)) → (x1 = (I 0 29)) → (¬ x2 = (I 0 28)) → Φ (some (.int 0)) (mS I A J) plM)
    (e_6 : (¬ ((I 0 20) = 0)) → (¬ ((I 0 20) = 6)) → ((I 0 20) = 3) → (¬ x1 = (I 0 28)) → (x1 = (I 0 29)) → (x2 = (I 0 28)) → Φ (some (.int 1)) (mS I A J) plM)
    (e_7 : (¬ ((I 0 20) = 0)) → (¬ ((I 0 20) = 6)) → ((I 0 20) = 3) → (x1 = (I 0 28)) → (x2 = (I 0 29)) → Φ (some (.int 1)) (mS I A J) plM)
    (e_8 : (¬ ((I 0 20) = 0)) → (¬ ((I 0 20) = 6)) → ((I 0 20) = 3) → (x1 = (I 0 28)) → (¬ (x2 = (I 0 29))) → (¬ x1 = (I 0 29)) → Φ (some (.int 0)) (mS I A J) plM)
    (e_9 : (¬ ((I 0 20) = 0)) → (¬ ((I 0 20) = 6)) → ((I 0 20) = 3) → (x1 = (I 0 28)) → (¬ (x2 = (I 0 29))) → (x1 = (I 0 29)) → (¬ x2 = (I 0 28)) → Φ (some (.int 0)) (mS I A J) plM)
    (e_10 : (¬ ((I 0 20) = 0)) → (¬ ((I 0 20) = 6)) → ((I 0 20) = 3) → (x1 = (I 0 28)) → (¬ (x2 = (I 0 29))) → (x1 = (I 0 29)) → (x2 = (I 0 28)) → Φ (some (.int 1)) (mS I A J) plM) :
    WA X (mS I A J) plM 0 0 0 [(0, .ref 0), (1, .int x1), (2, .int x2)] [] := by
  refine a_aload_n F 0 dX12_mayPlay_0 rfl rfl ?_
  refine a_geti F fl_12_227 rfl (by decide) rfl dX12_mayPlay_1 ?_
  refine a_if_eq (tgt := 56) F dX12_mayPlay_4 (by decide) (fun (c_1 : (I 0 20) = 0) => ?_) (fun (c_1 : ¬ ((I 0 20) = 0)) => ?_)
  · refine a_iconst (v := 1) F dX12_mayPlay_56 (by decide) ?_
    refine a_goto (tgt := 61) F dX12_mayPlay_57 (by decide) ?_
    exact a_zret F E (by decide) dX12_mayPlay_61 (Nat.le_refl 0) (Nat.le_refl 0) (e_1 c_1)
  · refine a_aload_n F 0 dX12_mayPlay_7 rfl rfl ?_
    refine a_geti F fl_12_227 rfl (by decide) rfl dX12_mayPlay_8 ?_
    refine a_bipush (v := 6) F dX12_mayPlay_11 (by decide) ?_
    refine a_icmp_eq (tgt := 56) F dX12_mayPlay_13 (by decide) (fun (c_2 : (I 0 20) = 6) => ?_) (fun (c_2 : ¬ ((I 0 20) = 6)) => ?_)
    · refine a_iconst (v := 1) F dX12_mayPlay_56 (by decide) ?_
      refine a_goto (tgt := 61) F dX12_mayPlay_57 (by decide) ?_
      exact a_zret F E (by decide) dX12_mayPlay_61 (Nat.le_refl 0) (Nat.le_refl 0) (e_2 c_1 c_2)
    · refine a_aload_n F 0 dX12_mayPlay_16 rfl rfl ?_
      refine a_geti F fl_12_227 rfl (by decide) rfl dX12_mayPlay_17 ?_
      refine a_iconst (v := 3) F dX12_mayPlay_20 (by decide) ?_
      refine a_icmp_ne (tgt := 60) F dX12_mayPlay_21 (by decide) (fun (c_3 : ¬ (I 0 20) = 3) => ?_) (fun (c_3 : (I 0 20) = 3) => ?_)
      · refine a_iconst (v := 0) F dX12_mayPlay_60 (by decide) ?_
        exact a_zret F E (by decide) dX12_mayPlay_61 (Nat.le_refl 0) (Nat.le_refl 0) (e_3 c_1 c_2 c_3)
      · refine a_iload_n F 1 dX12_mayPlay_24 rfl rfl ?_
        refine a_aload_n F 0 dX12_mayPlay_25 rfl rfl ?_
        refine a_geti F fl_12_230 rfl (by decide) rfl dX12_mayPlay_26 ?_
        refine a_icmp_ne (tgt := 40) F dX12_mayPlay_29 (by decide) (fun (c_4 : ¬ x1 = (I 0 28)) => ?_) (fun (c_4 : x1 = (I 0 28)) => ?_)
        · refine a_iload_n F 1 dX12_mayPlay_40 rfl rfl ?_
          refine a_aload_n F 0 dX12_mayPlay_41 rfl rfl ?_
          refine a_geti F fl_12_233 rfl (by decide) rfl dX12_mayPlay_42 ?_
          refine a_icmp_ne (tgt := 60) F dX12_mayPlay_45 (by decide) (fun (c_5 : ¬ x1 = (I 0 29)) => ?_) (fun (c_5 : x1 = (I 0 29)) => ?_)
          · refine a_iconst (v := 0) F dX12_mayPlay_60 (by decide) ?_
            exact a_zret F E (by decide) dX12_mayPlay_61 (Nat.le_refl 0) (Nat.le_refl 0) (e_4 c_1 c_2 c_3 c_4 c_5)
          · refine a_iload_n F 2 dX12_mayPlay_48 rfl rfl ?_
            refine a_aload_n F 0 dX12_mayPlay_49 rfl rfl ?_
            refine a_geti F fl_12_230 rfl (by decide) rfl dX12_mayPlay_50 ?_
            refine a_icmp_ne (tgt := 60) F dX12_mayPlay_53 (by decide) (fun (c_6 : ¬ x2 = (I 0 28)) => ?_) (fun (c_6 : x2 = (I 0 28)) => ?_)
            · refine a_iconst (v := 0) F dX12_mayPlay_60 (by decide) ?_
              exact a_zret F E (by decide) dX12_mayPlay_61 (Nat.le_refl 0) (Nat.le_refl 0) (e_5 c_1 c_2 c_3 c_4 c_5 c_6)
            · refine a_iconst (v := 1) F dX12_mayPlay_56 (by decide) ?_
              refine a_goto (tgt := 61) F dX12_mayPlay_57 (by decide) ?_
              exact a_zret F E (by decide) dX12_mayPlay_61 (Nat.le_refl 0) (Nat.le_refl 0) (e_6 c_1 c_2 c_3 c_4 c_5 c_6)
        · refine a_iload_n F 2 dX12_mayPlay_32 rfl rfl ?_
          refine a_aload_n F 0 dX12_mayPlay_33 rfl rfl ?_
          refine a_geti F fl_12_233 rfl (by decide) rfl dX12_mayPlay_34 ?_
          refine a_icmp_eq (tgt := 56) F dX12_mayPlay_37 (by decide) (fun (c_7 : x2 = (I 0 29)) => ?_) (fun (c_7 : ¬ (x2 = (I 0 29))) => ?_)
          · refine a_iconst (v := 1) F dX12_mayPlay_56 (by decide) ?_
            refine a_goto (tgt := 61) F dX12_mayPlay_57 (by decide) ?_
            exact a_zret F E (by decide) dX12_mayPlay_61 (Nat.le_refl 0) (Nat.le_refl 0) (e_7 c_1 c_2 c_3 c_4 c_7)
          · refine a_iload_n F 1 dX12_mayPlay_40 rfl rfl ?_
            refine a_aload_n F 0 dX12_mayPlay_41 rfl rfl ?_
            refine a_geti F fl_12_233 rfl (by decide) rfl dX12_mayPlay_42 ?_
            refine a_icmp_ne (tgt := 60) F dX12_mayPlay_45 (by decide) (fun (c_8 : ¬ x1 = (I 0 29)) => ?_) (fun (c_8 : x1 = (I 0 29)) => ?_)
            · refine a_iconst (v := 0) F dX12_mayPlay_60 (by decide) ?_
              exact a_zret F E (by decide) dX12_mayPlay_61 (Nat.le_refl 0) (Nat.le_refl 0) (e_8 c_1 c_2 c_3 c_4 c_7 c_8)
            · refine a_iload_n F 2 dX12_mayPlay_48 rfl rfl ?_
              refine a_aload_n F 0 dX12_mayPlay_49 rfl rfl ?_
              refine a_geti F fl_12_230 rfl (by decide) rfl dX12_mayPlay_50 ?_
              refine a_icmp_ne (tgt := 60) F dX12_mayPlay_53 (by decide) (fun (c_9 : ¬ x2 = (I 0 28)) => ?_) (fun (c_9 : x2 = (I 0 28)) => ?_)
              · refine a_iconst (v := 0) F dX12_mayPlay_60 (by decide) ?_
                exact a_zret F E (by decide) dX12_mayPlay_61 (Nat.le_refl 0) (Nat.le_refl 0) (e_9 c_1 c_2 c_3 c_4 c_7 c_8 c_9)
              · refine a_iconst (v := 1) F dX12_mayPlay_56 (by decide) ?_
                refine a_goto (tgt := 61) F dX12_mayPlay_57 (by decide) ?_
                exact a_zret F E (by decide) dX12_mayPlay_61 (Nat.le_refl 0) (Nat.le_refl 0) (e_10 c_1 c_2 c_3 c_4 c_7 c_8 c_9)

set_option maxRecDepth 10000 in
theorem c_mayPlay (l : Launch) (I A : Nat → Nat → Int32) (J : Nat → Nat → Int64) (a b : Int32) : Con l 1 yX12_mayPlay cX12_mayPlay 3 (some .boolean) [.ref 0, .int a, .int b] (mS I A J) plM 0 0 (PM (some (.int (if I 0 20 = 0 ∨ I 0 20 = 6 ∨ (I 0 20 = 3 ∧ ((a = I 0 28 ∧ b = I 0 29) ∨ (a = I 0 29 ∧ b = I 0 28))) then 1 else 0))) I A J) := by
  refine Con.of (by decide) (Nat.le_of_ble_eq_true rfl) (fun X hX9 hn9 F E => ?_)
  refine r_12_mayPlay_0 F E ?_ ?_ ?_ ?_ ?_ ?_ ?_ ?_ ?_ ?_ <;> (clear F E hn9 hX9; (try clear X); intros <;> first | (simp_all [PM, up2_up2]; done) | (simp_all [PM, up2_up2]; grind))
