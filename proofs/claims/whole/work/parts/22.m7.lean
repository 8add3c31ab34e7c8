theorem c_rememberI (l : Launch) (I A : Nat → Nat → Int32) (J : Nat → Nat → Int64) (h : ∃ p, p ≤ 8 ∧ I 0 19 = nI p) : Con l 1 yX12_remember cX12_remember 2 none [.ref 0] (mS I A J) plM 0 0 (PM none (up2 I 0 19 (nI (remP (I 0 19).toNatClampNeg + 1))) (up1 A 18 (remRow (A 18) (I 0 19).toNatClampNeg (A 1) (I 0 2))) J) := by
  obtain ⟨p, hp, hI⟩ := h
  have e : (I 0 19).toNatClampNeg = p := by rw [hI]; exact nI_clamp (by omega)
  rw [e]
  exact c_remember l I A J p hp hI
def overV (I A : Nat → Nat → Int32) (a off : Int32) : Int32 := I 0 22 * timesOf (A 1) off (26 * (1 - a.toNatClampNeg))
def overI (I A : Nat → Nat → Int32) (a off : Int32) : Nat → Nat → Int32 := endI I a (overV I A a off) (A 30 a.toNatClampNeg + overV I A a off)
def overA (I A : Nat → Nat → Int32) (a off : Int32) : Nat → Nat → Int32 := up1 A 30 (upd (A 30) a.toNatClampNeg (A 30 a.toNatClampNeg + overV I A a off))
theorem c_gameOverI (l : Launch) (I A : Nat → Nat → Int32) (J : Nat → Nat → Int64) (a off : Int32) (h : a = 0 ∨ a = 1) : Con l 1 yX12_gameOver cX12_gameOver 6 none [.ref 0, .int a, .int off] (mS I A J) plM 0 0 (PM none (overI I A a off) (overA I A a off) J) := by
  rcases h with rfl | rfl
  · exact c_gameOver l I A J 0 off (by omega)
  · exact c_gameOver l I A J 1 off (by omega)

theorem r_12_answer_0 {X : Ctx} (F : Fx X cX12_answer RX12 2 2 0 0) {Φ : Option Value → HS → List Nat → Prop} (E : Ex X (some .int) 0 0 Φ) {I A : Nat → Nat → Int32} {J : Nat → Nat → Int64} {x1 : Int32}
    (e_1 : (¬ (I 0 20) = 4) → Φ (some (.int 0)) (mS (up2 (up2 I 0 0 0) 0 0 (1 : Int32)) A J) plM)
    (o_2 : ((I 0 20) = 4) → (x1 = 0) → (I 0 2) = 0 ∨ (I 0 2) = 1)
    (e_3 : ((I 0 20) = 4) → (x1 = 0) → Φ (some (.int ((overI (up2 I 0 0 0) A (I 0 2) (0 : Int32)) 0 20))) (mS (overI (up2 I 0 0 0) A (I 0 2) (0 : Int32)) (overA (up2 I 0 0 0) A (I 0 2) (0 : Int32)) J) plM)
    (e_4 : ((I 0 20) = 4) → (¬ (x1 = 0)) → Φ (some (.int 2)) (mS (up2 (up2 (up2 (up2 I 0 0 0) 0 22 ((I 0 22) * 2)) 0 23 (1 - (I 0 2))) 0 20 2) A J) plM) :
    WA X (mS I A J) plM 0 0 0 [(0, .ref 0), (1, .int x1)] [] := by
  refine a_aload_n F 0 dX12_answer_0 rfl rfl ?_
  refine a_iconst (v := 0) F dX12_answer_1 (by decide) ?_
  refine a_puti F fl_12_1 rfl rfl rfl rfl (by decide) rfl dX12_answer_2 ?_
  refine a_aload_n F 0 dX12_answer_5 rfl rfl ?_
  refine a_aload_n F 0 dX12_answer_6 rfl rfl ?_
  refine a_geti F fl_12_227 rfl (by decide) rfl dX12_answer_7 ?_
  refine a_iconst (v := 4) F dX12_answer_10 (by decide) ?_
  refine a_icmp_ne (tgt := 18) F dX12_answer_11 (by decide) (fun (c_1 : ¬ (I 0 20) = 4) => ?_) (fun (c_1 : (I 0 20) = 4) => ?_)
  · refine a_iconst (v := 0) F dX12_answer_18 (by decide) ?_
    refine a_iconst (v := 1) F dX12_answer_19 (by decide) ?_
    refine a_callV (b := 0) (As := [.int 0, .int 1]) (st := []) (ci := 12) F (c_may0 (xl X) (up2 I 0 0 0) A J (1 : Int32) (by decide) rfl) ml_12_155 im_yX12_may se_yX12_may (by decide) (by decide) rfl (by decide) rfl rfl dX12_answer_20 (by decide) (Nat.le_refl 0) (Nat.le_refl 0) (hl_r (by decide) (hl_i hl_nil)) hs_nil ?_
    rintro _ _ _ ⟨rfl, rfl, rfl⟩ _
    show WA X (mS (up2 (up2 I 0 0 0) 0 0 (1 : Int32)) A J) plM 0 0 23 [(0, .ref 0), (1, .int x1)] [.int 0]
    refine a_if_ne (tgt := 28) F dX12_answer_23 (by decide) (fun (c_2 : ¬ (0 : Int32) = 0) => ?_) (fun (c_2 : (0 : Int32) = 0) => ?_)
    · exact absurd c_2 (by decide)
    · refine a_iconst (v := 0) F dX12_answer_26 (by decide) ?_
      exact a_iret F E dX12_answer_27 (Nat.le_refl 0) (Nat.le_refl 0) (e_1 c_1)
  · refine a_iconst (v := 1) F dX12_answer_14 (by decide) ?_
    refine a_goto (tgt := 19) F dX12_answer_15 (by decide) ?_
    refine a_iconst (v := 1) F dX12_answer_19 (by decide) ?_
    refine a_callV (b := 0) (As := [.int 1, .int 1]) (st := []) (ci := 12) F (c_may1 (xl X) (up2 I 0 0 0) A J (1 : Int32) (by decide) rfl) ml_12_155 im_yX12_may se_yX12_may (by decide) (by decide) rfl (by decide) rfl rfl dX12_answer_20 (by decide) (Nat.le_refl 0) (Nat.le_refl 0) (hl_r (by decide) (hl_i hl_nil)) hs_nil ?_
    rintro _ _ _ ⟨rfl, rfl, rfl⟩ _
    show WA X (mS (up2 I 0 0 0) A J) plM 0 0 23 [(0, .ref 0), (1, .int x1)] [.int 1]
    refine a_if_ne (tgt := 28) F dX12_answer_23 (by decide) (fun (c_3 : ¬ (1 : Int32) = 0) => ?_) (fun (c_3 : (1 : Int32) = 0) => ?_)
    · refine a_iload_n F 1 dX12_answer_28 rfl rfl ?_
      refine a_if_eq (tgt := 60) F dX12_answer_29 (by decide) (fun (c_4 : x1 = 0) => ?_) (fun (c_4 : ¬ (x1 = 0)) => ?_)
      · refine a_aload_n F 0 dX12_answer_60 rfl rfl ?_
        refine a_aload_n F 0 dX12_answer_61 rfl rfl ?_
        refine a_geti F fl_12_149 rfl (by decide) rfl dX12_answer_62 ?_
        refine a_iconst (v := 0) F dX12_answer_65 (by decide) ?_
        refine a_callV (b := 0) (As := [.int (I 0 2), .int 0]) (st := []) (ci := 12) F (c_gameOverI (xl X) (up2 I 0 0 0) A J (I 0 2) 0 (o_2 c_1 c_4)) ml_12_258 im_yX12_gameOver se_yX12_gameOver (by decide) (by decide) rfl (by decide) rfl rfl dX12_answer_66 (by decide) (Nat.le_refl 0) (Nat.le_refl 0) (hl_r (by decide) (hl_i hl_nil)) hs_nil ?_
        rintro _ _ _ ⟨rfl, rfl, rfl⟩ _
        show WA X (mS (overI (up2 I 0 0 0) A (I 0 2) (0 : Int32)) (overA (up2 I 0 0 0) A (I 0 2) (0 : Int32)) J) plM 0 0 69 [(0, .ref 0), (1, .int x1)] []
        refine a_aload_n F 0 dX12_answer_69 rfl rfl ?_
        refine a_geti F fl_12_227 rfl (by decide) rfl dX12_answer_70 ?_
        exact a_iret F E dX12_answer_73 (Nat.le_refl 0) (Nat.le_refl 0) (e_3 c_1 c_4)
      · refine a_aload_n F 0 dX12_answer_32 rfl rfl ?_
        refine a_dup F dX12_answer_33 rfl ?_
        refine a_geti F fl_12_45 rfl (by decide) rfl dX12_answer_34 ?_
        refine a_iconst (v := 2) F dX12_answer_37 (by decide) ?_
        refine a_imul F dX12_answer_38 ?_
        refine a_puti F fl_12_45 rfl rfl rfl rfl (by decide) rfl dX12_answer_39 ?_
        refine a_aload_n F 0 dX12_answer_42 rfl rfl ?_
        refine a_iconst (v := 1) F dX12_answer_43 (by decide) ?_
        refine a_aload_n F 0 dX12_answer_44 rfl rfl ?_
        refine a_geti F fl_12_149 rfl (by decide) rfl dX12_answer_45 ?_
        refine a_isub F dX12_answer_48 ?_
        refine a_puti F fl_12_48 rfl rfl rfl rfl (by decide) rfl dX12_answer_49 ?_
        refine a_aload_n F 0 dX12_answer_52 rfl rfl ?_
        refine a_iconst (v := 2) F dX12_answer_53 (by decide) ?_
        refine a_puti F fl_12_227 rfl rfl rfl rfl (by decide) rfl dX12_answer_54 ?_
        refine a_goto (tgt := 69) F dX12_answer_57 (by decide) ?_
        refine a_aload_n F 0 dX12_answer_69 rfl rfl ?_
        refine a_geti F fl_12_227 rfl (by decide) rfl dX12_answer_70 ?_
        exact a_iret F E dX12_answer_73 (Nat.le_refl 0) (Nat.le_refl 0) (e_4 c_1 c_4)
    · exact absurd c_3 (by decide)

set_option maxRecDepth 10000 in
theorem c_answer (l : Launch) (I A : Nat → Nat → Int32) (J : Nat → Nat → Int64) (t : Int32) (h : I 0 2 = 0 ∨ I 0 2 = 1) : Con l 2 yX12_answer cX12_answer 2 (some .int) [.ref 0, .int t] (mS I A J) plM 0 0 (if I 0 20 = 4 then (if t = 0 then PM (some (.int (overI (up2 I 0 0 0) A (I 0 2) 0 0 20))) (overI (up2 I 0 0 0) A (I 0 2) 0) (overA (up2 I 0 0 0) A (I 0 2) 0) J else PM (some (.int 2)) (up2 (up2 (up2 (up2 I 0 0 0) 0 22 (I 0 22 * 2)) 0 23 (1 - I 0 2)) 0 20 2) A J) else PM (some (.int 0)) (up2 I 0 0 1) A J) := by
  refine Con.of (by decide) (Nat.le_of_ble_eq_true rfl) (fun X hX9 hn9 F E => ?_)
  refine r_12_answer_0 F E ?_ ?_ ?_ ?_ <;> (clear F E hn9 hX9; (try clear X); intros <;> first | assumption | (simp_all [PM, up2_up2]; done))

theorem r_12_choose_0 {X : Ctx} (F : Fx X cX12_choose RX12 4 2 0 0) {Φ : Option Value → HS → List Nat → Prop} (E : Ex X (some .int) 0 0 Φ) {I A : Nat → Nat → Int32} {J : Nat → Nat → Int64} {x1 : Int32}
    (o_1 : (0 ≤ x1 ∧ x1 < (I 0 16)) → (0 < (I 0 20) ∧ (I 0 20) < 6) → vp_in x1 3200)
    (e_2 : (0 ≤ x1 ∧ x1 < (I 0 16)) → (0 < (I 0 20) ∧ (I 0 20) < 6) → WA X (mS (up2 I 0 0 0) A J) plM 0 0 40 [(0, .ref 0), (1, .int x1), (2, .int (A 15 x1.toNatClampNeg)), (3, .int 0)] [])
    (o_3 : (0 ≤ x1 ∧ x1 < (I 0 16)) → (¬ (0 < (I 0 20) ∧ (I 0 20) < 6)) → ∃ p, p ≤ 8 ∧ (I 0 19) = nI p)
    (o_4 : (0 ≤ x1 ∧ x1 < (I 0 16)) → (¬ (0 < (I 0 20) ∧ (I 0 20) < 6)) → vp_in x1 3200)
    (e_5 : (0 ≤ x1 ∧ x1 < (I 0 16)) → (¬ (0 < (I 0 20) ∧ (I 0 20) < 6)) → WA X (mS (up2 (up2 I 0 0 0) 0 19 (nI (remP (I 0 19).toNatClampNeg + 1))) (up1 A 18 (remRow (A 18) (I 0 19).toNatClampNeg (A 1) (I 0 2))) J) plM 0 0 40 [(0, .ref 0), (1, .int x1), (2, .int ((up1 A 18 (remRow (A 18) (I 0 19).toNatClampNeg (A 1) (I 0 2))) 15 x1.toNatClampNeg)), (3, .int 0)] [])
    (e_6 : (¬ (0 ≤ x1 ∧ x1 < (I 0 16))) → Φ (some (.int 0)) (mS (up2 (up2 I 0 0 0) 0 0 (1 : Int32)) A J) plM) :
    WA X (mS I A J) plM 0 0 0 [(0, .ref 0), (1, .int x1)] [] := by
  refine a_aload_n F 0 dX12_choose_0 rfl rfl ?_
  refine a_iconst (v := 0) F dX12_choose_1 (by decide) ?_
  refine a_puti F fl_12_1 rfl rfl rfl rfl (by decide) rfl dX12_choose_2 ?_
  refine a_aload_n F 0 dX12_choose_5 rfl rfl ?_
  refine a_aload_n F 0 dX12_choose_6 rfl rfl ?_
  refine a_iload_n F 1 dX12_choose_7 rfl rfl ?_
  refine a_callV (b := 0) (As := [.int x1]) (st := [.ref 0]) (ci := 12) F (c_isResult (xl X) (up2 I 0 0 0) A J x1) ml_12_246 im_yX12_isResult se_yX12_isResult (by decide) (by decide) rfl (by decide) rfl rfl dX12_choose_8 (Nat.le_of_ble_eq_true rfl) (Nat.le_refl 0) (Nat.le_refl 0) (hl_r (by decide) (hl_i hl_nil)) (hs_r (by decide) hs_nil) ?_
  rintro _ _ _ ⟨rfl, rfl, rfl⟩ _
  show WA X (mS (up2 I 0 0 0) A J) plM 0 0 11 [(0, .ref 0), (1, .int x1)] [.int (if 0 ≤ x1 ∧ x1 < (I 0 16) then 1 else 0), .ref 0]
  refine a_ite (fun (c_1 : 0 ≤ x1 ∧ x1 < (I 0 16)) => ?_) (fun (c_1 : ¬ (0 ≤ x1 ∧ x1 < (I 0 16))) => ?_)
  · refine a_iconst (v := 1) F dX12_choose_11 (by decide) ?_
    refine a_callV (b := 0) (As := [.int 1, .int 1]) (st := []) (ci := 12) F (c_may1 (xl X) (up2 I 0 0 0) A J (1 : Int32) (by decide) rfl) ml_12_155 im_yX12_may se_yX12_may (by decide) (by decide) rfl (by decide) rfl rfl dX12_choose_12 (by decide) (Nat.le_refl 0) (Nat.le_refl 0) (hl_r (by decide) (hl_i hl_nil)) hs_nil ?_
    rintro _ _ _ ⟨rfl, rfl, rfl⟩ _
    show WA X (mS (up2 I 0 0 0) A J) plM 0 0 15 [(0, .ref 0), (1, .int x1)] [.int 1]
    refine a_if_ne (tgt := 20) F dX12_choose_15 (by decide) (fun (c_2 : ¬ (1 : Int32) = 0) => ?_) (fun (c_2 : (1 : Int32) = 0) => ?_)
    · refine a_aload_n F 0 dX12_choose_20 rfl rfl ?_
      refine a_callV (b := 0) (As := []) (st := []) (ci := 12) F (c_isMatch (xl X) (up2 I 0 0 0) A J ) ml_12_252 im_yX12_isMatch se_yX12_isMatch (by decide) (by decide) rfl (by decide) rfl rfl dX12_choose_21 (by decide) (Nat.le_refl 0) (Nat.le_refl 0) (hl_r (by decide) (hl_i hl_nil)) hs_nil ?_
      rintro _ _ _ ⟨rfl, rfl, rfl⟩ _
      show WA X (mS (up2 I 0 0 0) A J) plM 0 0 24 [(0, .ref 0), (1, .int x1)] [.int (if 0 < (I 0 20) ∧ (I 0 20) < 6 then 1 else 0)]
      refine a_ite (fun (c_3 : 0 < (I 0 20) ∧ (I 0 20) < 6) => ?_) (fun (c_3 : ¬ (0 < (I 0 20) ∧ (I 0 20) < 6)) => ?_)
      · refine a_if_ne (tgt := 31) F dX12_choose_24 (by decide) (fun (c_4 : ¬ (1 : Int32) = 0) => ?_) (fun (c_4 : (1 : Int32) = 0) => ?_)
        · refine a_aload_n F 0 dX12_choose_31 rfl rfl ?_
          refine a_getr (b := 15) F fl_12_39 rfl (by decide) rfl rfl dX12_choose_32 ?_
          refine a_iload_n F 1 dX12_choose_35 rfl rfl ?_
          refine a_iald F (by decide) rfl (o_1 c_1 c_3) dX12_choose_36 ?_
          refine a_istore_n F dX12_choose_37 rfl (by decide) rfl ?_
          refine a_iconst (v := 0) F dX12_choose_38 (by decide) ?_
          refine a_istore_n F dX12_choose_39 rfl (by decide) rfl ?_
          refine a_sub [2, 3, 1, 0] rfl ?_
          exact e_2 c_1 c_3
        · exact absurd c_4 (by decide)
      · refine a_if_ne (tgt := 31) F dX12_choose_24 (by decide) (fun (c_5 : ¬ (0 : Int32) = 0) => ?_) (fun (c_5 : (0 : Int32) = 0) => ?_)
        · exact absurd c_5 (by decide)
        · refine a_aload_n F 0 dX12_choose_27 rfl rfl ?_
          refine a_callV (b := 0) (As := []) (st := []) (ci := 12) F (c_rememberI (xl X) (up2 I 0 0 0) A J  (o_3 c_1 c_3)) ml_12_255 im_yX12_remember se_yX12_remember (by decide) (by decide) rfl (by decide) rfl rfl dX12_choose_28 (by decide) (Nat.le_refl 0) (Nat.le_refl 0) (hl_r (by decide) (hl_i hl_nil)) hs_nil ?_
          rintro _ _ _ ⟨rfl, rfl, rfl⟩ _
          show WA X (mS (up2 (up2 I 0 0 0) 0 19 (nI (remP (I 0 19).toNatClampNeg + 1))) (up1 A 18 (remRow (A 18) (I 0 19).toNatClampNeg (A 1) (I 0 2))) J) plM 0 0 31 [(0, .ref 0), (1, .int x1)] []
          refine a_aload_n F 0 dX12_choose_31 rfl rfl ?_
          refine a_getr (b := 15) F fl_12_39 rfl (by decide) rfl rfl dX12_choose_32 ?_
          refine a_iload_n F 1 dX12_choose_35 rfl rfl ?_
          refine a_iald F (by decide) rfl (o_4 c_1 c_3) dX12_choose_36 ?_
          refine a_istore_n F dX12_choose_37 rfl (by decide) rfl ?_
          refine a_iconst (v := 0) F dX12_choose_38 (by decide) ?_
          refine a_istore_n F dX12_choose_39 rfl (by decide) rfl ?_
          refine a_sub [2, 3, 1, 0] rfl ?_
          exact e_5 c_1 c_3
    · exact absurd c_2 (by decide)
  · refine a_iconst (v := 1) F dX12_choose_11 (by decide) ?_
    refine a_callV (b := 0) (As := [.int 0, .int 1]) (st := []) (ci := 12) F (c_may0 (xl X) (up2 I 0 0 0) A J (1 : Int32) (by decide) rfl) ml_12_155 im_yX12_may se_yX12_may (by decide) (by decide) rfl (by decide) rfl rfl dX12_choose_12 (by decide) (Nat.le_refl 0) (Nat.le_refl 0) (hl_r (by decide) (hl_i hl_nil)) hs_nil ?_
    rintro _ _ _ ⟨rfl, rfl, rfl⟩ _
    show WA X (mS (up2 (up2 I 0 0 0) 0 0 (1 : Int32)) A J) plM 0 0 15 [(0, .ref 0), (1, .int x1)] [.int 0]
    refine a_if_ne (tgt := 20) F dX12_choose_15 (by decide) (fun (c_6 : ¬ (0 : Int32) = 0) => ?_) (fun (c_6 : (0 : Int32) = 0) => ?_)
    · exact absurd c_6 (by decide)
    · refine a_iconst (v := 0) F dX12_choose_18 (by decide) ?_
      exact a_iret F E dX12_choose_19 (Nat.le_refl 0) (Nat.le_refl 0) (e_6 c_1)

theorem r_12_choose_40 {X : Ctx} (F : Fx X cX12_choose RX12 4 2 0 0) {Φ : Option Value → HS → List Nat → Prop} (E : Ex X (some .int) 0 0 Φ) {I A : Nat → Nat → Int32} {J : Nat → Nat → Int64} {x1 x2 x3 : Int32}
    (e_1 : (52 ≤ x3) → (¬ (I 0 20) = 3) → Φ (some (.int (1 - (I 0 2)))) (mS (up2 (up2 I 0 2 (1 - (I 0 2))) 0 16 0) A J) plM)
    (o_2 : (52 ≤ x3) → ((I 0 20) = 3) → ((A 1) 0 = 15 ∨ (A 1) 26 = 15) → vp_in 0 52)
    (o_3 : (52 ≤ x3) → ((I 0 20) = 3) → ((A 1) 0 = 15 ∨ (A 1) 26 = 15) → (¬ (A 1 0) = 15) → (1 : Int32) = 0 ∨ (1 : Int32) = 1)
    (e_4 : (52 ≤ x3) → ((I 0 20) = 3) → ((A 1) 0 = 15 ∨ (A 1) 26 = 15) → (¬ (A 1 0) = 15) → Φ (some (.int ((overI (up2 (up2 (up2 I 0 2 (1 - (I 0 2))) 0 16 0) 0 20 2) A (1 : Int32) (1 : Int32)) 0 2))) (mS (overI (up2 (up2 (up2 I 0 2 (1 - (I 0 2))) 0 16 0) 0 20 2) A (1 : Int32) (1 : Int32)) (overA (up2 (up2 (up2 I 0 2 (1 - (I 0 2))) 0 16 0) 0 20 2) A (1 : Int32) (1 : Int32)) J) plM)
    (o_5 : (52 ≤ x3) → ((I 0 20) = 3) → ((A 1) 0 = 15 ∨ (A 1) 26 = 15) → ((A 1 0) = 15) → (0 : Int32) = 0 ∨ (0 : Int32) = 1)
    (e_6 : (52 ≤ x3) → ((I 0 20) = 3) → ((A 1) 0 = 15 ∨ (A 1) 26 = 15) → ((A 1 0) = 15) → Φ (some (.int ((overI (up2 (up2 (up2 I 0 2 (1 - (I 0 2))) 0 16 0) 0 20 2) A (0 : Int32) (1 : Int32)) 0 2))) (mS (overI (up2 (up2 (up2 I 0 2 (1 - (I 0 2))) 0 16 0) 0 20 2) A (0 : Int32) (1 : Int32)) (overA (up2 (up2 (up2 I 0 2 (1 - (I 0 2))) 0 16 0) 0 20 2) A (0 : Int32) (1 : Int32)) J) plM)
    (e_7 : (52 ≤ x3) → ((I 0 20) = 3) → (¬ ((A 1) 0 = 15 ∨ (A 1) 26 = 15)) → Φ (some (.int (1 - (I 0 2)))) (mS (up2 (up2 (up2 I 0 2 (1 - (I 0 2))) 0 16 0) 0 20 2) A J) plM)
    (o_8 : (¬ (52 ≤ x3)) → vp_in ((52 * x2) + x3) 166400)
    (o_9 : (¬ (52 ≤ x3)) → vp_in x3 52)
    (e_10 : (¬ (52 ≤ x3)) → WA X (mS I (up1 A 1 (upd (A 1) x3.toNatClampNeg (A 13 ((52 * x2) + x3).toNatClampNeg))) J) plM 0 0 40 [(0, .ref 0), (1, .int x1), (2, .int x2), (3, .int (x3 + 1))] []) :
    WA X (mS I A J) plM 0 0 40 [(0, .ref 0), (1, .int x1), (2, .int x2), (3, .int x3)] [] := by
  refine a_iload_n F 3 dX12_choose_40 rfl rfl ?_
  refine a_bipush (v := 52) F dX12_choose_41 (by decide) ?_
  refine a_icmp_ge (tgt := 69) F dX12_choose_43 (by decide) (fun (c_7 : 52 ≤ x3) => ?_) (fun (c_7 : ¬ (52 ≤ x3)) => ?_)
  · refine a_aload_n F 0 dX12_choose_69 rfl rfl ?_
    refine a_iconst (v := 1) F dX12_choose_70 (by decide) ?_
    refine a_aload_n F 0 dX12_choose_71 rfl rfl ?_
    refine a_geti F fl_12_149 rfl (by decide) rfl dX12_choose_72 ?_
    refine a_isub F dX12_choose_75 ?_
    refine a_puti F fl_12_149 rfl rfl rfl rfl (by decide) rfl dX12_choose_76 ?_
    refine a_aload_n F 0 dX12_choose_79 rfl rfl ?_
    refine a_iconst (v := 0) F dX12_choose_80 (by decide) ?_
    refine a_puti F fl_12_152 rfl rfl rfl rfl (by decide) rfl dX12_choose_81 ?_
    refine a_aload_n F 0 dX12_choose_84 rfl rfl ?_
    refine a_geti F fl_12_227 rfl (by decide) rfl dX12_choose_85 ?_
    refine a_iconst (v := 3) F dX12_choose_88 (by decide) ?_
    refine a_icmp_ne (tgt := 125) F dX12_choose_89 (by decide) (fun (c_8 : ¬ (I 0 20) = 3) => ?_) (fun (c_8 : (I 0 20) = 3) => ?_)
    · refine a_aload_n F 0 dX12_choose_125 rfl rfl ?_
      refine a_geti F fl_12_149 rfl (by decide) rfl dX12_choose_126 ?_
      exact a_iret F E dX12_choose_129 (Nat.le_refl 0) (Nat.le_refl 0) (e_1 c_7 c_8)
    · refine a_aload_n F 0 dX12_choose_92 rfl rfl ?_
      refine a_iconst (v := 2) F dX12_choose_93 (by decide) ?_
      refine a_puti F fl_12_227 rfl rfl rfl rfl (by decide) rfl dX12_choose_94 ?_
      refine a_aload_n F 0 dX12_choose_97 rfl rfl ?_
      refine a_callV (b := 0) (As := []) (st := []) (ci := 12) F (c_isOver (xl X) (up2 (up2 (up2 I 0 2 (1 - (I 0 2))) 0 16 0) 0 20 2) A J ) ml_12_163 im_yX12_isOver se_yX12_isOver (by decide) (by decide) rfl (by decide) rfl rfl dX12_choose_98 (by decide) (Nat.le_refl 0) (Nat.le_refl 0) (hl_r (by decide) (hl_i (hl_i (hl_i hl_nil)))) hs_nil ?_
      rintro _ _ _ ⟨rfl, rfl, rfl⟩ _
      show WA X (mS (up2 (up2 (up2 I 0 2 (1 - (I 0 2))) 0 16 0) 0 20 2) A J) plM 0 0 101 [(0, .ref 0), (1, .int x1), (2, .int x2), (3, .int x3)] [.int (if (A 1) 0 = 15 ∨ (A 1) 26 = 15 then 1 else 0)]
      refine a_ite (fun (c_9 : (A 1) 0 = 15 ∨ (A 1) 26 = 15) => ?_) (fun (c_9 : ¬ ((A 1) 0 = 15 ∨ (A 1) 26 = 15)) => ?_)
      · refine a_if_eq (tgt := 125) F dX12_choose_101 (by decide) (fun (c_10 : (1 : Int32) = 0) => ?_) (fun (c_10 : ¬ ((1 : Int32) = 0)) => ?_)
        · exact absurd c_10 (by decide)
        · refine a_aload_n F 0 dX12_choose_104 rfl rfl ?_
          refine a_aload_n F 0 dX12_choose_105 rfl rfl ?_
          refine a_getr (b := 1) F fl_12_13 rfl (by decide) rfl rfl dX12_choose_106 ?_
          refine a_iconst (v := 0) F dX12_choose_109 (by decide) ?_
          refine a_iald F (by decide) rfl (o_2 c_7 c_8 c_9) dX12_choose_110 ?_
          refine a_bipush (v := 15) F dX12_choose_111 (by decide) ?_
          refine a_icmp_ne (tgt := 120) F dX12_choose_113 (by decide) (fun (c_11 : ¬ (A 1 0) = 15) => ?_) (fun (c_11 : (A 1 0) = 15) => ?_)
          · refine a_iconst (v := 1) F dX12_choose_120 (by decide) ?_
            refine a_iconst (v := 1) F dX12_choose_121 (by decide) ?_
            refine a_callV (b := 0) (As := [.int 1, .int 1]) (st := []) (ci := 12) F (c_gameOverI (xl X) (up2 (up2 (up2 I 0 2 (1 - (I 0 2))) 0 16 0) 0 20 2) A J 1 1 (o_3 c_7 c_8 c_9 c_11)) ml_12_258 im_yX12_gameOver se_yX12_gameOver (by decide) (by decide) rfl (by decide) rfl rfl dX12_choose_122 (by decide) (Nat.le_refl 0) (Nat.le_refl 0) (hl_r (by decide) (hl_i (hl_i (hl_i hl_nil)))) hs_nil ?_
            rintro _ _ _ ⟨rfl, rfl, rfl⟩ _
            show WA X (mS (overI (up2 (up2 (up2 I 0 2 (1 - (I 0 2))) 0 16 0) 0 20 2) A (1 : Int32) (1 : Int32)) (overA (up2 (up2 (up2 I 0 2 (1 - (I 0 2))) 0 16 0) 0 20 2) A (1 : Int32) (1 : Int32)) J) plM 0 0 125 [(0, .ref 0), (1, .int x1), (2, .int x2), (3, .int x3)] []
            refine a_aload_n F 0 dX12_choose_125 rfl rfl ?_
            refine a_geti F fl_12_149 rfl (by decide) rfl dX12_choose_126 ?_
            exact a_iret F E dX12_choose_129 (Nat.le_refl 0) (Nat.le_refl 0) (e_4 c_7 c_8 c_9 c_11)
          · refine a_iconst (v := 0) F dX12_choose_116 (by decide) ?_
            refine a_goto (tgt := 121) F dX12_choose_117 (by decide) ?_
            refine a_iconst (v := 1) F dX12_choose_121 (by decide) ?_
            refine a_callV (b := 0) (As := [.int 0, .int 1]) (st := []) (ci := 12) F (c_gameOverI (xl X) (up2 (up2 (up2 I 0 2 (1 - (I 0 2))) 0 16 0) 0 20 2) A J 0 1 (o_5 c_7 c_8 c_9 c_11)) ml_12_258 im_yX12_gameOver se_yX12_gameOver (by decide) (by decide) rfl (by decide) rfl rfl dX12_choose_122 (by decide) (Nat.le_refl 0) (Nat.le_refl 0) (hl_r (by decide) (hl_i (hl_i (hl_i hl_nil)))) hs_nil ?_
            rintro _ _ _ ⟨rfl, rfl, rfl⟩ _
            show WA X (mS (overI (up2 (up2 (up2 I 0 2 (1 - (I 0 2))) 0 16 0) 0 20 2) A (0 : Int32) (1 : Int32)) (overA (up2 (up2 (up2 I 0 2 (1 - (I 0 2))) 0 16 0) 0 20 2) A (0 : Int32) (1 : Int32)) J) plM 0 0 125 [(0, .ref 0), (1, .int x1), (2, .int x2), (3, .int x3)] []
            refine a_aload_n F 0 dX12_choose_125 rfl rfl ?_
            refine a_geti F fl_12_149 rfl (by decide) rfl dX12_choose_126 ?_
            exact a_iret F E dX12_choose_129 (Nat.le_refl 0) (Nat.le_refl 0) (e_6 c_7 c_8 c_9 c_11)
      · refine a_if_eq (tgt := 125) F dX12_choose_101 (by decide) (fun (c_12 : (0 : Int32) = 0) => ?_) (fun (c_12 : ¬ ((0 : Int32) = 0)) => ?_)
        · refine a_aload_n F 0 dX12_choose_125 rfl rfl ?_
          refine a_geti F fl_12_149 rfl (by decide) rfl dX12_choose_126 ?_
          exact a_iret F E dX12_choose_129 (Nat.le_refl 0) (Nat.le_refl 0) (e_7 c_7 c_8 c_9)
        · exact absurd c_12 (by decide)
  · refine a_aload_n F 0 dX12_choose_46 rfl rfl ?_
    refine a_getr (b := 1) F fl_12_13 rfl (by decide) rfl rfl dX12_choose_47 ?_
    refine a_iload_n F 3 dX12_choose_50 rfl rfl ?_
    refine a_aload_n F 0 dX12_choose_51 rfl rfl ?_
    refine a_getr (b := 13) F fl_12_33 rfl (by decide) rfl rfl dX12_choose_52 ?_
    refine a_bipush (v := 52) F dX12_choose_55 (by decide) ?_
    refine a_iload_n F 2 dX12_choose_57 rfl rfl ?_
    refine a_imul F dX12_choose_58 ?_
    refine a_iload_n F 3 dX12_choose_59 rfl rfl ?_
    refine a_iadd F dX12_choose_60 ?_
    refine a_iald F (by decide) rfl (o_8 c_7) dX12_choose_61 ?_
    refine a_iast F (by decide) rfl (o_9 c_7) dX12_choose_62 ?_
    refine a_iinc (v := x3 + 1) F 3 dX12_choose_63 rfl rfl (by decide) rfl ?_
    refine a_goto (tgt := 40) F dX12_choose_66 (by decide) ?_
    refine a_sub [1, 2, 3, 0] rfl ?_
    exact e_10 c_7

theorem overI_2 (I A : Nat → Nat → Int32) (a off : Int32) : overI I A a off 0 2 = I 0 2 := by
  unfold overI endI; split <;> rfl
/-- a RESULT becomes the position -/
def chB (A : Nat → Nat → Int32) (r : Nat) : Nat → Int32 := segF (A 1) 0 52 (fun k => A 13 (52 * r + k))
def chI (I : Nat → Nat → Int32) : Nat → Nat → Int32 := up2 (up2 I 0 2 (1 - I 0 2)) 0 16 0
def chPost (I A : Nat → Nat → Int32) (J : Nat → Nat → Int64) (r : Nat) : Option Value → HS → List Nat → Prop :=
  if I 0 20 = 3 then (if chB A r 0 = 15 ∨ chB A r 26 = 15 then PM (some (.int (1 - I 0 2))) (overI (up2 (chI I) 0 20 2) (up1 A 1 (chB A r)) (if chB A r 0 = 15 then 0 else 1) 1) (overA (up2 (chI I) 0 20 2) (up1 A 1 (chB A r)) (if chB A r 0 = 15 then 0 else 1) 1) J
    else PM (some (.int (1 - I 0 2))) (up2 (chI I) 0 20 2) (up1 A 1 (chB A r)) J) else PM (some (.int (1 - I 0 2))) (chI I) (up1 A 1 (chB A r)) J

set_option maxRecDepth 10000 in
theorem c_choose (l : Launch) (I A : Nat → Nat → Int32) (J : Nat → Nat → Int64) (i : Int32) (hp : ∃ p, p ≤ 8 ∧ I 0 19 = nI p) (hn : I 0 16 ≤ 3200) (hr : 0 ≤ i → i < I 0 16 → ∃ r, r < 3200 ∧ A 15 i.toNatClampNeg = nI r) : Con l 2 yX12_choose cX12_choose 4 (some .int) [.ref 0, .int i] (mS I A J) plM 0 0 (if 0 ≤ i ∧ i < I 0 16 then (if 0 < I 0 20 ∧ I 0 20 < 6 then chPost (up2 I 0 0 0) A J (A 15 i.toNatClampNeg).toNatClampNeg else chPost (up2 (up2 I 0 0 0) 0 19 (nI (remP (I 0 19).toNatClampNeg + 1))) (up1 A 18 (remRow (A 18) (I 0 19).toNatClampNeg (A 1) (I 0 2))) J (A 15 i.toNatClampNeg).toNatClampNeg) else PM (some (.int 0)) (up2 I 0 0 1) A J) := by
  refine Con.of (by decide) (Nat.le_of_ble_eq_true rfl) (fun X hX9 hn9 F E => ?_)
  have tail : ∀ (I A : Nat → Nat → Int32) (r : Nat), r < 3200 → Ex X (some .int) 0 0 (chPost I A J r) → WA X (mS I A J) plM 0 0 40 [(0, .ref 0), (1, .int i), (2, .int (nI r)), (3, .int 0)] [] := by
    intro I A r hr E
    have loop : ∀ n k, k + n = 52 → WA X (mS I (up1 A 1 (segF (A 1) 0 k (fun k => A 13 (52 * r + k)))) J) plM 0 0 40 [(0, .ref 0), (1, .int i), (2, .int (nI r)), (3, .int (nI k))] [] := by
      intro n
      induction n with
      | zero =>
        intro k hk
        obtain rfl : k = 52 := by omega
        refine r_12_choose_40 F E ?_ ?_ ?_ ?_ ?_ ?_ ?_ (fun h => absurd (nI_le (a := 52) (b := 52) (by omega) (by omega)) h) (fun h => absurd (nI_le (a := 52) (b := 52) (by omega) (by omega)) h) (fun h => absurd (nI_le (a := 52) (b := 52) (by omega) (by omega)) h)
        · intro _ h; unfold chPost; rw [if_neg h]; exact ⟨rfl, rfl, rfl⟩
        · intro _ _ _; exact vp_in_nI (n := 0) (by omega) (by omega)
        · intro _ _ _ _; exact Or.inr rfl
        · intro _ h (h2 : chB A r 0 = 15 ∨ chB A r 26 = 15) (h3 : ¬ chB A r 0 = 15)
          unfold chPost
          rw [if_pos h, if_pos h2, show (if chB A r 0 = 15 then (0 : Int32) else 1) = 1 from if_neg h3, overI_2]
          exact ⟨rfl, rfl, rfl⟩
        · intro _ _ _ _; exact Or.inl rfl
        · intro _ h (h2 : chB A r 0 = 15 ∨ chB A r 26 = 15) (h3 : chB A r 0 = 15)
          unfold chPost
          rw [if_pos h, if_pos h2, show (if chB A r 0 = 15 then (0 : Int32) else 1) = 0 from if_pos h3, overI_2]
          exact ⟨rfl, rfl, rfl⟩
        · intro _ h (h2 : ¬ (chB A r 0 = 15 ∨ chB A r 26 = 15))
          unfold chPost
          rw [if_pos h, if_neg h2]
          exact ⟨rfl, rfl, rfl⟩
      | succ n ih =>
        intro k hk
        have e : 52 * nI r + nI k = nI (52 * r + k) := by rw [lit 52, pk_mul, nI_add]
        refine r_12_choose_40 F E (fun h => absurd h (nI_ge (b := 52) (by omega) (by omega))) (fun h => absurd h (nI_ge (b := 52) (by omega) (by omega))) (fun h => absurd h (nI_ge (b := 52) (by omega) (by omega))) (fun h => absurd h (nI_ge (b := 52) (by omega) (by omega))) (fun h => absurd h (nI_ge (b := 52) (by omega) (by omega))) (fun h => absurd h (nI_ge (b := 52) (by omega) (by omega))) (fun h => absurd h (nI_ge (b := 52) (by omega) (by omega))) (fun _ => ?_) (fun _ => vp_in_nI (by omega) (by omega)) (fun _ => ?_)
        · rw [e]; exact vp_in_nI (by omega) (by omega)
        · rw [e, nI_clamp (by omega), nI_clamp (by omega), nI_1, up1_up1, up1_s, up1_p (show (13 : Nat) ≠ 1 by decide)]
          have k2 := ih (k + 1) (by omega)
          rw [← seg_s, Nat.zero_add] at k2
          exact k2
    have k := loop 52 0 rfl
    rw [seg_0, up1_id] at k
    exact k
  refine r_12_choose_0 F E ?_ ?_ ?_ ?_ ?_ ?_
  · intro h _; exact in_i (N := 3200) rfl (by grind)
  · intro h h2
    rw [if_pos h, if_pos h2] at E
    obtain ⟨r, hr1, hr2⟩ := hr h.1 h.2
    rw [hr2, nI_clamp (by omega)] at E
    rw [hr2]
    exact tail _ _ r hr1 E
  · intro _ _; exact hp
  · intro h _; exact in_i (N := 3200) rfl (by grind)
  · intro h h2
    rw [if_pos h, if_neg h2] at E
    obtain ⟨r, hr1, hr2⟩ := hr h.1 h.2
    rw [hr2, nI_clamp (by omega)] at E
    rw [up1_p (show (15 : Nat) ≠ 18 by decide), hr2]
    exact tail _ _ r hr1 E
  · intro h; rw [if_neg h]; exact ⟨rfl, by rw [up2_up2], rfl⟩
