theorem r_12_thrown_0 {X : Ctx} (F : Fx X cX12_thrown RX12 1 1 0 0) {Φ : Option Value → HS → List Nat → Prop} (E : Ex X (some .int) 0 0 Φ) {I A : Nat → Nat → Int32} {J : Nat → Nat → Int64}
    (e_1 : Φ (some (.int (I 0 0))) (mS I A J) plM) :
    WA X (mS I A J) plM 0 0 0 [(0, .ref 0)] [] := by
  refine a_aload_n F 0 dX12_thrown_0 rfl rfl ?_
  refine a_geti F fl_12_1 rfl (by decide) rfl dX12_thrown_1 ?_
  exact a_iret F E dX12_thrown_4 (Nat.le_refl 0) (Nat.le_refl 0) (e_1)

set_option maxRecDepth 10000 in
theorem c_thrown (l : Launch) (I A : Nat → Nat → Int32) (J : Nat → Nat → Int64) : Con l 1 yX12_thrown cX12_thrown 1 (some .int) [.ref 0] (mS I A J) plM 0 0 (PM (some (.int (I 0 0))) I A J) := by
  refine Con.of (by decide) (Nat.le_of_ble_eq_true rfl) (fun X hX9 hn9 F E => ?_)
  refine r_12_thrown_0 F E ?_ <;> (clear F E hn9 hX9; (try clear X); intros <;> first | (simp_all [PM]; done) | (simp_all [PM]; grind))

theorem r_12_may_0 {X : Ctx} (F : Fx X cX12_may RX12 3 1 0 0) {Φ : Option Value → HS → List Nat → Prop} (E : Ex X (some .boolean) 0 0 Φ) {I A : Nat → Nat → Int32} {J : Nat → Nat → Int64} {x1 x2 : Int32}
    (e_1 : (¬ x1 = 0) → (¬ (I 0 0) = 0) → Φ (some (.int 0)) (mS I A J) plM)
    (e_2 : (¬ x1 = 0) → ((I 0 0) = 0) → Φ (some (.int 1)) (mS I A J) plM)
    (e_3 : (x1 = 0) → (¬ (I 0 0) = 0) → Φ (some (.int 0)) (mS I A J) plM)
    (e_4 : (x1 = 0) → ((I 0 0) = 0) → (¬ x2 = 0) → Φ (some (.int 0)) (mS (up2 I 0 0 x2) A J) plM)
    (e_5 : (x1 = 0) → ((I 0 0) = 0) → (x2 = 0) → Φ (some (.int 1)) (mS (up2 I 0 0 x2) A J) plM) :
    WA X (mS I A J) plM 0 0 0 [(0, .ref 0), (1, .int x1), (2, .int x2)] [] := by
  refine a_iload_n F 1 dX12_may_0 rfl rfl ?_
  refine a_if_ne (tgt := 16) F dX12_may_1 (by decide) (fun (c_1 : ¬ x1 = 0) => ?_) (fun (c_1 : x1 = 0) => ?_)
  · refine a_aload_n F 0 dX12_may_16 rfl rfl ?_
    refine a_geti F fl_12_1 rfl (by decide) rfl dX12_may_17 ?_
    refine a_if_ne (tgt := 27) F dX12_may_20 (by decide) (fun (c_2 : ¬ (I 0 0) = 0) => ?_) (fun (c_2 : (I 0 0) = 0) => ?_)
    · refine a_iconst (v := 0) F dX12_may_27 (by decide) ?_
      exact a_zret F E (by decide) dX12_may_28 (Nat.le_refl 0) (Nat.le_refl 0) (e_1 c_1 c_2)
    · refine a_iconst (v := 1) F dX12_may_23 (by decide) ?_
      refine a_goto (tgt := 28) F dX12_may_24 (by decide) ?_
      exact a_zret F E (by decide) dX12_may_28 (Nat.le_refl 0) (Nat.le_refl 0) (e_2 c_1 c_2)
  · refine a_aload_n F 0 dX12_may_4 rfl rfl ?_
    refine a_geti F fl_12_1 rfl (by decide) rfl dX12_may_5 ?_
    refine a_if_ne (tgt := 16) F dX12_may_8 (by decide) (fun (c_3 : ¬ (I 0 0) = 0) => ?_) (fun (c_3 : (I 0 0) = 0) => ?_)
    · refine a_aload_n F 0 dX12_may_16 rfl rfl ?_
      refine a_geti F fl_12_1 rfl (by decide) rfl dX12_may_17 ?_
      refine a_if_ne (tgt := 27) F dX12_may_20 (by decide) (fun (c_4 : ¬ (I 0 0) = 0) => ?_) (fun (c_4 : (I 0 0) = 0) => ?_)
      · refine a_iconst (v := 0) F dX12_may_27 (by decide) ?_
        exact a_zret F E (by decide) dX12_may_28 (Nat.le_refl 0) (Nat.le_refl 0) (e_3 c_1 c_3)
      · exact absurd c_4 c_3
    · refine a_aload_n F 0 dX12_may_11 rfl rfl ?_
      refine a_iload_n F 2 dX12_may_12 rfl rfl ?_
      refine a_puti F fl_12_1 rfl rfl rfl rfl (by decide) rfl dX12_may_13 ?_
      refine a_aload_n F 0 dX12_may_16 rfl rfl ?_
      refine a_geti F fl_12_1 rfl (by decide) rfl dX12_may_17 ?_
      refine a_if_ne (tgt := 27) F dX12_may_20 (by decide) (fun (c_5 : ¬ x2 = 0) => ?_) (fun (c_5 : x2 = 0) => ?_)
      · refine a_iconst (v := 0) F dX12_may_27 (by decide) ?_
        exact a_zret F E (by decide) dX12_may_28 (Nat.le_refl 0) (Nat.le_refl 0) (e_4 c_1 c_3 c_5)
      · refine a_iconst (v := 1) F dX12_may_23 (by decide) ?_
        refine a_goto (tgt := 28) F dX12_may_24 (by decide) ?_
        exact a_zret F E (by decide) dX12_may_28 (Nat.le_refl 0) (Nat.le_refl 0) (e_5 c_1 c_3 c_5)

set_option maxRecDepth 10000 in
theorem c_may (l : Launch) (I A : Nat → Nat → Int32) (J : Nat → Nat → Int64) (a b : Int32) (hb : ¬ b = 0) (h0 : I 0 0 = 0) : Con l 1 yX12_may cX12_may 3 (some .boolean) [.ref 0, .int a, .int b] (mS I A J) plM 0 0 (PM (some (.int (if a = 0 then 0 else 1))) (if a = 0 then up2 I 0 0 b else I) A J) := by
  refine Con.of (by decide) (Nat.le_of_ble_eq_true rfl) (fun X hX9 hn9 F E => ?_)
  refine r_12_may_0 F E ?_ ?_ ?_ ?_ ?_ <;> (clear F E; intros; simp_all [PM])

theorem c_may1 (l : Launch) (I A : Nat → Nat → Int32) (J : Nat → Nat → Int64) (b : Int32) (hb : ¬ b = 0) (h0 : I 0 0 = 0) : Con l 1 yX12_may cX12_may 3 (some .boolean) [.ref 0, .int 1, .int b] (mS I A J) plM 0 0 (PM (some (.int 1)) I A J) := c_may l I A J 1 b hb h0
theorem c_may0 (l : Launch) (I A : Nat → Nat → Int32) (J : Nat → Nat → Int64) (b : Int32) (hb : ¬ b = 0) (h0 : I 0 0 = 0) : Con l 1 yX12_may cX12_may 3 (some .boolean) [.ref 0, .int 0, .int b] (mS I A J) plM 0 0 (PM (some (.int 0)) (up2 I 0 0 b) A J) := c_may l I A J 0 b hb h0

theorem r_12_isDie_0 {X : Ctx} (F : Fx X cX12_isDie RX12 1 1 0 0) {Φ : Option Value → HS → List Nat → Prop} (E : Ex X (some .boolean) 0 0 Φ) {I A : Nat → Nat → Int32} {J : Nat → Nat → Int64} {x0 : Int32}
    (e_1 : (x0 < 1) → Φ (some (.int 0)) (mS I A J) plM)
    (e_2 : (¬ (x0 < 1)) → (6 < x0) → Φ (some (.int 0)) (mS I A J) plM)
    (e_3 : (¬ (x0 < 1)) → (¬ (6 < x0)) → Φ (some (.int 1)) (mS I A J) plM) :
    WA X (mS I A J) plM 0 0 0 [(0, .int x0)] [] := by
  refine a_iload_n F 0 dX12_isDie_0 rfl rfl ?_
  refine a_iconst (v := 1) F dX12_isDie_1 (by decide) ?_
  refine a_icmp_lt (tgt := 15) F dX12_isDie_2 (by decide) (fun (c_1 : x0 < 1) => ?_) (fun (c_1 : ¬ (x0 < 1)) => ?_)
  · refine a_iconst (v := 0) F dX12_isDie_15 (by decide) ?_
    exact a_zret F E (by decide) dX12_isDie_16 (Nat.le_refl 0) (Nat.le_refl 0) (e_1 c_1)
  · refine a_iload_n F 0 dX12_isDie_5 rfl rfl ?_
    refine a_bipush (v := 6) F dX12_isDie_6 (by decide) ?_
    refine a_icmp_gt (tgt := 15) F dX12_isDie_8 (by decide) (fun (c_2 : 6 < x0) => ?_) (fun (c_2 : ¬ (6 < x0)) => ?_)
    · refine a_iconst (v := 0) F dX12_isDie_15 (by decide) ?_
      exact a_zret F E (by decide) dX12_isDie_16 (Nat.le_refl 0) (Nat.le_refl 0) (e_2 c_1 c_2)
    · refine a_iconst (v := 1) F dX12_isDie_11 (by decide) ?_
      refine a_goto (tgt := 16) F dX12_isDie_12 (by decide) ?_
      exact a_zret F E (by decide) dX12_isDie_16 (Nat.le_refl 0) (Nat.le_refl 0) (e_3 c_1 c_2)

set_option maxRecDepth 10000 in
theorem c_isDie (l : Launch) (I A : Nat → Nat → Int32) (J : Nat → Nat → Int64) (a : Int32) : Con l 1 yX12_isDie cX12_isDie 1 (some .boolean) [.int a] (mS I A J) plM 0 0 (PM (some (.int (if 1 ≤ a ∧ a ≤ 6 then 1 else 0))) I A J) := by
  refine Con.of (by decide) (Nat.le_of_ble_eq_true rfl) (fun X hX9 hn9 F E => ?_)
  refine r_12_isDie_0 F E ?_ ?_ ?_ <;> (clear F E hn9 hX9; (try clear X); intros <;> first | (simp_all [PM]; done) | (simp_all [PM]; grind))

theorem r_12_isOver_0 {X : Ctx} (F : Fx X cX12_isOver RX12 1 1 0 0) {Φ : Option Value → HS → List Nat → Prop} (E : Ex X (some .boolean) 0 0 Φ) {I A : Nat → Nat → Int32} {J : Nat → Nat → Int64}
    (o_1 : vp_in 0 52)
    (e_2 : ((A 1 0) = 15) → Φ (some (.int 1)) (mS I A J) plM)
    (o_3 : (¬ ((A 1 0) = 15)) → vp_in 26 52)
    (e_4 : (¬ ((A 1 0) = 15)) → (¬ (A 1 26) = 15) → Φ (some (.int 0)) (mS I A J) plM)
    (e_5 : (¬ ((A 1 0) = 15)) → ((A 1 26) = 15) → Φ (some (.int 1)) (mS I A J) plM) :
    WA X (mS I A J) plM 0 0 0 [(0, .ref 0)] [] := by
  refine a_aload_n F 0 dX12_isOver_0 rfl rfl ?_
  refine a_getr (b := 1) F fl_12_13 rfl (by decide) rfl rfl dX12_isOver_1 ?_
  refine a_iconst (v := 0) F dX12_isOver_4 (by decide) ?_
  refine a_iald F (by decide) rfl (o_1) dX12_isOver_5 ?_
  refine a_bipush (v := 15) F dX12_isOver_6 (by decide) ?_
  refine a_icmp_eq (tgt := 23) F dX12_isOver_8 (by decide) (fun (c_1 : (A 1 0) = 15) => ?_) (fun (c_1 : ¬ ((A 1 0) = 15)) => ?_)
  · refine a_iconst (v := 1) F dX12_isOver_23 (by decide) ?_
    refine a_goto (tgt := 28) F dX12_isOver_24 (by decide) ?_
    exact a_zret F E (by decide) dX12_isOver_28 (Nat.le_refl 0) (Nat.le_refl 0) (e_2 c_1)
  · refine a_aload_n F 0 dX12_isOver_11 rfl rfl ?_
    refine a_getr (b := 1) F fl_12_13 rfl (by decide) rfl rfl dX12_isOver_12 ?_
    refine a_bipush (v := 26) F dX12_isOver_15 (by decide) ?_
    refine a_iald F (by decide) rfl (o_3 c_1) dX12_isOver_17 ?_
    refine a_bipush (v := 15) F dX12_isOver_18 (by decide) ?_
    refine a_icmp_ne (tgt := 27) F dX12_isOver_20 (by decide) (fun (c_2 : ¬ (A 1 26) = 15) => ?_) (fun (c_2 : (A 1 26) = 15) => ?_)
    · refine a_iconst (v := 0) F dX12_isOver_27 (by decide) ?_
      exact a_zret F E (by decide) dX12_isOver_28 (Nat.le_refl 0) (Nat.le_refl 0) (e_4 c_1 c_2)
    · refine a_iconst (v := 1) F dX12_isOver_23 (by decide) ?_
      refine a_goto (tgt := 28) F dX12_isOver_24 (by decide) ?_
      exact a_zret F E (by decide) dX12_isOver_28 (Nat.le_refl 0) (Nat.le_refl 0) (e_5 c_1 c_2)

set_option maxRecDepth 10000 in
theorem c_isOver (l : Launch) (I A : Nat → Nat → Int32) (J : Nat → Nat → Int64) : Con l 1 yX12_isOver cX12_isOver 1 (some .boolean) [.ref 0] (mS I A J) plM 0 0 (PM (some (.int (if A 1 0 = 15 ∨ A 1 26 = 15 then 1 else 0))) I A J) := by
  refine Con.of (by decide) (Nat.le_of_ble_eq_true rfl) (fun X hX9 hn9 F E => ?_)
  refine r_12_isOver_0 F E ?_ ?_ ?_ ?_ ?_ <;> (clear F E hn9 hX9; (try clear X); intros <;> first | exact vp_in_nI (n := 0) (by omega) (by omega) | exact vp_in_nI (n := 26) (by omega) (by omega) | (simp_all [PM]; done))

theorem r_12_isMatch_0 {X : Ctx} (F : Fx X cX12_isMatch RX12 1 1 0 0) {Φ : Option Value → HS → List Nat → Prop} (E : Ex X (some .boolean) 0 0 Φ) {I A : Nat → Nat → Int32} {J : Nat → Nat → Int64}
    (e_1 : ((I 0 20) ≤ 0) → Φ (some (.int 0)) (mS I A J) plM)
    (e_2 : (¬ ((I 0 20) ≤ 0)) → (6 ≤ (I 0 20)) → Φ (some (.int 0)) (mS I A J) plM)
    (e_3 : (¬ ((I 0 20) ≤ 0)) → (¬ (6 ≤ (I 0 20))) → Φ (some (.int 1)) (mS I A J) plM) :
    WA X (mS I A J) plM 0 0 0 [(0, .ref 0)] [] := by
  refine a_aload_n F 0 dX12_isMatch_0 rfl rfl ?_
  refine a_geti F fl_12_227 rfl (by decide) rfl dX12_isMatch_1 ?_
  refine a_if_le (tgt := 20) F dX12_isMatch_4 (by decide) (fun (c_1 : (I 0 20) ≤ 0) => ?_) (fun (c_1 : ¬ ((I 0 20) ≤ 0)) => ?_)
  · refine a_iconst (v := 0) F dX12_isMatch_20 (by decide) ?_
    exact a_zret F E (by decide) dX12_isMatch_21 (Nat.le_refl 0) (Nat.le_refl 0) (e_1 c_1)
  · refine a_aload_n F 0 dX12_isMatch_7 rfl rfl ?_
    refine a_geti F fl_12_227 rfl (by decide) rfl dX12_isMatch_8 ?_
    refine a_bipush (v := 6) F dX12_isMatch_11 (by decide) ?_
    refine a_icmp_ge (tgt := 20) F dX12_isMatch_13 (by decide) (fun (c_2 : 6 ≤ (I 0 20)) => ?_) (fun (c_2 : ¬ (6 ≤ (I 0 20))) => ?_)
    · refine a_iconst (v := 0) F dX12_isMatch_20 (by decide) ?_
      exact a_zret F E (by decide) dX12_isMatch_21 (Nat.le_refl 0) (Nat.le_refl 0) (e_2 c_1 c_2)
    · refine a_iconst (v := 1) F dX12_isMatch_16 (by decide) ?_
      refine a_goto (tgt := 21) F dX12_isMatch_17 (by decide) ?_
      exact a_zret F E (by decide) dX12_isMatch_21 (Nat.le_refl 0) (Nat.le_refl 0) (e_3 c_1 c_2)

set_option maxRecDepth 10000 in
theorem c_isMatch (l : Launch) (I A : Nat → Nat → Int32) (J : Nat → Nat → Int64) : Con l 1 yX12_isMatch cX12_isMatch 1 (some .boolean) [.ref 0] (mS I A J) plM 0 0 (PM (some (.int (if 0 < I 0 20 ∧ I 0 20 < 6 then 1 else 0))) I A J) := by
  refine Con.of (by decide) (Nat.le_of_ble_eq_true rfl) (fun X hX9 hn9 F E => ?_)
  refine r_12_isMatch_0 F E ?_ ?_ ?_ <;> (clear F E hn9 hX9; (try clear X); intros <;> first | (simp_all [PM]; done) | (simp_all [PM]; grind))

theorem r_12_isResult_0 {X : Ctx} (F : Fx X cX12_isResult RX12 2 1 0 0) {Φ : Option Value → HS → List Nat → Prop} (E : Ex X (some .boolean) 0 0 Φ) {I A : Nat → Nat → Int32} {J : Nat → Nat → Int64} {x1 : Int32}
    (e_1 : (x1 < 0) → Φ (some (.int 0)) (mS I A J) plM)
    (e_2 : (¬ (x1 < 0)) → ((I 0 16) ≤ x1) → Φ (some (.int 0)) (mS I A J) plM)
    (e_3 : (¬ (x1 < 0)) → (¬ ((I 0 16) ≤ x1)) → Φ (some (.int 1)) (mS I A J) plM) :
    WA X (mS I A J) plM 0 0 0 [(0, .ref 0), (1, .int x1)] [] := by
  refine a_iload_n F 1 dX12_isResult_0 rfl rfl ?_
  refine a_if_lt (tgt := 16) F dX12_isResult_1 (by decide) (fun (c_1 : x1 < 0) => ?_) (fun (c_1 : ¬ (x1 < 0)) => ?_)
  · refine a_iconst (v := 0) F dX12_isResult_16 (by decide) ?_
    exact a_zret F E (by decide) dX12_isResult_17 (Nat.le_refl 0) (Nat.le_refl 0) (e_1 c_1)
  · refine a_iload_n F 1 dX12_isResult_4 rfl rfl ?_
    refine a_aload_n F 0 dX12_isResult_5 rfl rfl ?_
    refine a_geti F fl_12_152 rfl (by decide) rfl dX12_isResult_6 ?_
    refine a_icmp_ge (tgt := 16) F dX12_isResult_9 (by decide) (fun (c_2 : (I 0 16) ≤ x1) => ?_) (fun (c_2 : ¬ ((I 0 16) ≤ x1)) => ?_)
    · refine a_iconst (v := 0) F dX12_isResult_16 (by decide) ?_
      exact a_zret F E (by decide) dX12_isResult_17 (Nat.le_refl 0) (Nat.le_refl 0) (e_2 c_1 c_2)
    · refine a_iconst (v := 1) F dX12_isResult_12 (by decide) ?_
      refine a_goto (tgt := 17) F dX12_isResult_13 (by decide) ?_
      exact a_zret F E (by decide) dX12_isResult_17 (Nat.le_refl 0) (Nat.le_refl 0) (e_3 c_1 c_2)

set_option maxRecDepth 10000 in
theorem c_isResult (l : Launch) (I A : Nat → Nat → Int32) (J : Nat → Nat → Int64) (i : Int32) : Con l 1 yX12_isResult cX12_isResult 2 (some .boolean) [.ref 0, .int i] (mS I A J) plM 0 0 (PM (some (.int (if 0 ≤ i ∧ i < I 0 16 then 1 else 0))) I A J) := by
  refine Con.of (by decide) (Nat.le_of_ble_eq_true rfl) (fun X hX9 hn9 F E => ?_)
  refine r_12_isResult_0 F E ?_ ?_ ?_ <;> (clear F E hn9 hX9; (try clear X); intros <;> first | (simp_all [PM]; done) | (simp_all [PM]; grind))

theorem r_12_fine_0 {X : Ctx} (F : Fx X cX12_fine RX12 1 1 0 0) {Φ : Option Value → HS → List Nat → Prop} (E : Ex X (some .boolean) 0 0 Φ) {I A : Nat → Nat → Int32} {J : Nat → Nat → Int64}
    (e_1 : (¬ (I 0 41) = 0) → Φ (some (.int 0)) (mS I A J) plM)
    (e_2 : ((I 0 41) = 0) → Φ (some (.int 1)) (mS I A J) plM) :
    WA X (mS I A J) plM 0 0 0 [(0, .ref 0)] [] := by
  refine a_aload_n F 0 dX12_fine_0 rfl rfl ?_
  refine a_geti F fl_12_307 rfl (by decide) rfl dX12_fine_1 ?_
  refine a_if_ne (tgt := 11) F dX12_fine_4 (by decide) (fun (c_1 : ¬ (I 0 41) = 0) => ?_) (fun (c_1 : (I 0 41) = 0) => ?_)
  · refine a_iconst (v := 0) F dX12_fine_11 (by decide) ?_
    exact a_zret F E (by decide) dX12_fine_12 (Nat.le_refl 0) (Nat.le_refl 0) (e_1 c_1)
  · refine a_iconst (v := 1) F dX12_fine_7 (by decide) ?_
    refine a_goto (tgt := 12) F dX12_fine_8 (by decide) ?_
    exact a_zret F E (by decide) dX12_fine_12 (Nat.le_refl 0) (Nat.le_refl 0) (e_2 c_1)

set_option maxRecDepth 10000 in
theorem c_fine (l : Launch) (I A : Nat → Nat → Int32) (J : Nat → Nat → Int64) : Con l 1 yX12_fine cX12_fine 1 (some .boolean) [.ref 0] (mS I A J) plM 0 0 (PM (some (.int (if I 0 41 = 0 then 1 else 0))) I A J) := by
  refine Con.of (by decide) (Nat.le_of_ble_eq_true rfl) (fun X hX9 hn9 F E => ?_)
  refine r_12_fine_0 F E ?_ ?_ <;> (clear F E hn9 hX9; (try clear X); intros <;> first | (simp_all [PM]; done) | (simp_all [PM]; grind))
