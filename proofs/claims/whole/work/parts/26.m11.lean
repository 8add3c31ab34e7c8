theorem c_goI (l : Launch) (I A : Nat → Nat → Int32) (J : Nat → Nat → Int64) (h : ∃ n i, n ≤ 400 ∧ i ≤ n ∧ I 0 36 = nI n ∧ I 0 37 = nI i) : Con l 2 yX12_go cX12_go 2 none [.ref 0] (mS I A J) plM 0 0 (PM none (goI I (A 34) (I 0 36).toNatClampNeg (I 0 37).toNatClampNeg) A J) := by
  obtain ⟨n, i, hn, hi, h36, h37⟩ := h
  have e1 : (I 0 36).toNatClampNeg = n := by rw [h36]; exact nI_clamp (by omega)
  have e2 : (I 0 37).toNatClampNeg = i := by rw [h37]; exact nI_clamp (by omega)
  rw [e1, e2]
  exact c_go l I A J n i hn hi h36 h37
def wrongI (I : Nat → Nat → Int32) (f p : Int32) : Nat → Nat → Int32 := if I 0 41 = 0 then up2 (up2 I 0 41 f) 0 42 p else I
/-- a token may be asked for -/
def okT (I : Nat → Nat → Int32) : Prop := ∃ n i, n ≤ 400 ∧ i ≤ n ∧ I 0 36 = nI n ∧ I 0 37 = nI i
def gonI (I A : Nat → Nat → Int32) : Nat → Nat → Int32 := goI I (A 34) (I 0 36).toNatClampNeg (I 0 37).toNatClampNeg
def needI (I A : Nat → Nat → Int32) (c : Int32) : Nat → Nat → Int32 := if I 0 41 = 0 ∧ I 0 38 = 4 ∧ I 0 39 = c then gonI I A else wrongI I 1 (I 0 40)
def numI (I : Nat → Nat → Int32) (lo hi : Int32) : Nat → Nat → Int32 := if ¬ I 0 41 = 0 then I else if ¬ I 0 38 = 2 then wrongI I 1 (I 0 40) else if I 0 39 < lo ∨ hi < I 0 39 then wrongI I 2 (I 0 40) else I

theorem r_12_is_0 {X : Ctx} (F : Fx X cX12_is RX12 2 2 0 0) {Φ : Option Value → HS → List Nat → Prop} (E : Ex X (some .boolean) 0 0 Φ) {I A : Nat → Nat → Int32} {J : Nat → Nat → Int64} {x1 : Int32}
    (e_1 : ((I 0 41) = 0) → (¬ (I 0 38) = 4) → Φ (some (.int 0)) (mS I A J) plM)
    (e_2 : ((I 0 41) = 0) → ((I 0 38) = 4) → (¬ (I 0 39) = x1) → Φ (some (.int 0)) (mS I A J) plM)
    (e_3 : ((I 0 41) = 0) → ((I 0 38) = 4) → ((I 0 39) = x1) → Φ (some (.int 1)) (mS I A J) plM)
    (e_4 : (¬ ((I 0 41) = 0)) → Φ (some (.int 0)) (mS I A J) plM) :
    WA X (mS I A J) plM 0 0 0 [(0, .ref 0), (1, .int x1)] [] := by
  refine a_aload_n F 0 dX12_is_0 rfl rfl ?_
  refine a_callV (b := 0) (As := []) (st := []) (ci := 12) F (c_fine (xl X) I A J ) ml_12_310 im_yX12_fine se_yX12_fine (by decide) (by decide) rfl (by decide) rfl rfl dX12_is_1 (by decide) (Nat.le_refl 0) (Nat.le_refl 0) (hl_r (by decide) (hl_i hl_nil)) hs_nil ?_
  rintro _ _ _ ⟨rfl, rfl, rfl⟩ _
  show WA X (mS I A J) plM 0 0 4 [(0, .ref 0), (1, .int x1)] [.int (if (I 0 41) = 0 then 1 else 0)]
  refine a_ite (fun (c_1 : (I 0 41) = 0) => ?_) (fun (c_1 : ¬ ((I 0 41) = 0)) => ?_)
  · refine a_if_eq (tgt := 27) F dX12_is_4 (by decide) (fun (c_2 : (1 : Int32) = 0) => ?_) (fun (c_2 : ¬ ((1 : Int32) = 0)) => ?_)
    · exact absurd c_2 (by decide)
    · refine a_aload_n F 0 dX12_is_7 rfl rfl ?_
      refine a_geti F fl_12_302 rfl (by decide) rfl dX12_is_8 ?_
      refine a_iconst (v := 4) F dX12_is_11 (by decide) ?_
      refine a_icmp_ne (tgt := 27) F dX12_is_12 (by decide) (fun (c_3 : ¬ (I 0 38) = 4) => ?_) (fun (c_3 : (I 0 38) = 4) => ?_)
      · refine a_iconst (v := 0) F dX12_is_27 (by decide) ?_
        exact a_zret F E (by decide) dX12_is_28 (Nat.le_refl 0) (Nat.le_refl 0) (e_1 c_1 c_3)
      · refine a_aload_n F 0 dX12_is_15 rfl rfl ?_
        refine a_geti F fl_12_296 rfl (by decide) rfl dX12_is_16 ?_
        refine a_iload_n F 1 dX12_is_19 rfl rfl ?_
        refine a_icmp_ne (tgt := 27) F dX12_is_20 (by decide) (fun (c_4 : ¬ (I 0 39) = x1) => ?_) (fun (c_4 : (I 0 39) = x1) => ?_)
        · refine a_iconst (v := 0) F dX12_is_27 (by decide) ?_
          exact a_zret F E (by decide) dX12_is_28 (Nat.le_refl 0) (Nat.le_refl 0) (e_2 c_1 c_3 c_4)
        · refine a_iconst (v := 1) F dX12_is_23 (by decide) ?_
          refine a_goto (tgt := 28) F dX12_is_24 (by decide) ?_
          exact a_zret F E (by decide) dX12_is_28 (Nat.le_refl 0) (Nat.le_refl 0) (e_3 c_1 c_3 c_4)
  · refine a_if_eq (tgt := 27) F dX12_is_4 (by decide) (fun (c_5 : (0 : Int32) = 0) => ?_) (fun (c_5 : ¬ ((0 : Int32) = 0)) => ?_)
    · refine a_iconst (v := 0) F dX12_is_27 (by decide) ?_
      exact a_zret F E (by decide) dX12_is_28 (Nat.le_refl 0) (Nat.le_refl 0) (e_4 c_1)
    · exact absurd c_5 (by decide)

set_option maxRecDepth 10000 in
theorem c_is (l : Launch) (I A : Nat → Nat → Int32) (J : Nat → Nat → Int64) (c : Int32) : Con l 2 yX12_is cX12_is 2 (some .boolean) [.ref 0, .int c] (mS I A J) plM 0 0 (PM (some (.int (if I 0 41 = 0 ∧ I 0 38 = 4 ∧ I 0 39 = c then 1 else 0))) I A J) := by
  refine Con.of (by decide) (Nat.le_of_ble_eq_true rfl) (fun X hX9 hn9 F E => ?_)
  refine r_12_is_0 F E ?_ ?_ ?_ ?_ <;> (clear F E hn9 hX9; (try clear X); intros <;> first | (rw [if_pos (show I 0 41 = 0 ∧ I 0 38 = 4 ∧ I 0 39 = c by grind)]; exact ⟨rfl, rfl, rfl⟩) | (rw [if_neg (show ¬ (I 0 41 = 0 ∧ I 0 38 = 4 ∧ I 0 39 = c) by grind)]; exact ⟨rfl, rfl, rfl⟩))

theorem r_12_need_0 {X : Ctx} (F : Fx X cX12_need RX12 2 3 0 0) {Φ : Option Value → HS → List Nat → Prop} (E : Ex X none 0 0 Φ) {I A : Nat → Nat → Int32} {J : Nat → Nat → Int64} {x1 : Int32}
    (o_1 : ((I 0 41) = 0 ∧ (I 0 38) = 4 ∧ (I 0 39) = x1) → ∃ n i, n ≤ 400 ∧ i ≤ n ∧ (I 0 36) = nI n ∧ (I 0 37) = nI i)
    (e_2 : ((I 0 41) = 0 ∧ (I 0 38) = 4 ∧ (I 0 39) = x1) → Φ none (mS (gonI I A) A J) plM)
    (e_3 : (¬ ((I 0 41) = 0 ∧ (I 0 38) = 4 ∧ (I 0 39) = x1)) → Φ none (mS (wrongI I (1 : Int32) (I 0 40)) A J) plM) :
    WA X (mS I A J) plM 0 0 0 [(0, .ref 0), (1, .int x1)] [] := by
  refine a_aload_n F 0 dX12_need_0 rfl rfl ?_
  refine a_iload_n F 1 dX12_need_1 rfl rfl ?_
  refine a_callV (b := 0) (As := [.int x1]) (st := []) (ci := 12) F (c_is (xl X) I A J x1) ml_12_313 im_yX12_is se_yX12_is (by decide) (by decide) rfl (by decide) rfl rfl dX12_need_2 (by decide) (Nat.le_refl 0) (Nat.le_refl 0) (hl_r (by decide) (hl_i hl_nil)) hs_nil ?_
  rintro _ _ _ ⟨rfl, rfl, rfl⟩ _
  show WA X (mS I A J) plM 0 0 5 [(0, .ref 0), (1, .int x1)] [.int (if (I 0 41) = 0 ∧ (I 0 38) = 4 ∧ (I 0 39) = x1 then 1 else 0)]
  refine a_ite (fun (c_1 : (I 0 41) = 0 ∧ (I 0 38) = 4 ∧ (I 0 39) = x1) => ?_) (fun (c_1 : ¬ ((I 0 41) = 0 ∧ (I 0 38) = 4 ∧ (I 0 39) = x1)) => ?_)
  · refine a_if_eq (tgt := 15) F dX12_need_5 (by decide) (fun (c_2 : (1 : Int32) = 0) => ?_) (fun (c_2 : ¬ ((1 : Int32) = 0)) => ?_)
    · exact absurd c_2 (by decide)
    · refine a_aload_n F 0 dX12_need_8 rfl rfl ?_
      refine a_callV (b := 0) (As := []) (st := []) (ci := 12) F (c_goI (xl X) I A J  (o_1 c_1)) ml_12_316 im_yX12_go se_yX12_go (by decide) (by decide) rfl (by decide) rfl rfl dX12_need_9 (by decide) (Nat.le_refl 0) (Nat.le_refl 0) (hl_r (by decide) (hl_i hl_nil)) hs_nil ?_
      rintro _ _ _ ⟨rfl, rfl, rfl⟩ _
      show WA X (mS (gonI I A) A J) plM 0 0 12 [(0, .ref 0), (1, .int x1)] []
      refine a_goto (tgt := 24) F dX12_need_12 (by decide) ?_
      exact a_vret F E dX12_need_24 (Nat.le_refl 0) (Nat.le_refl 0) (e_2 c_1)
  · refine a_if_eq (tgt := 15) F dX12_need_5 (by decide) (fun (c_3 : (0 : Int32) = 0) => ?_) (fun (c_3 : ¬ ((0 : Int32) = 0)) => ?_)
    · refine a_aload_n F 0 dX12_need_15 rfl rfl ?_
      refine a_iconst (v := 1) F dX12_need_16 (by decide) ?_
      refine a_aload_n F 0 dX12_need_17 rfl rfl ?_
      refine a_geti F fl_12_293 rfl (by decide) rfl dX12_need_18 ?_
      refine a_callV (b := 0) (As := [.int 1, .int (I 0 40)]) (st := []) (ci := 12) F (c_wrong (xl X) I A J 1 (I 0 40)) ml_12_319 im_yX12_wrong se_yX12_wrong (by decide) (by decide) rfl (by decide) rfl rfl dX12_need_21 (by decide) (Nat.le_refl 0) (Nat.le_refl 0) (hl_r (by decide) (hl_i hl_nil)) hs_nil ?_
      rintro _ _ _ ⟨rfl, rfl, rfl⟩ _
      show WA X (mS (wrongI I (1 : Int32) (I 0 40)) A J) plM 0 0 24 [(0, .ref 0), (1, .int x1)] []
      exact a_vret F E dX12_need_24 (Nat.le_refl 0) (Nat.le_refl 0) (e_3 c_1)
    · exact absurd c_3 (by decide)

set_option maxRecDepth 10000 in
theorem c_need (l : Launch) (I A : Nat → Nat → Int32) (J : Nat → Nat → Int64) (c : Int32) (h : I 0 41 = 0 → I 0 38 = 4 → okT I) : Con l 3 yX12_need cX12_need 2 none [.ref 0, .int c] (mS I A J) plM 0 0 (PM none (needI I A c) A J) := by
  refine Con.of (by decide) (Nat.le_of_ble_eq_true rfl) (fun X hX9 hn9 F E => ?_)
  refine r_12_need_0 F E ?_ ?_ ?_ <;> (clear F E hn9 hX9; (try clear X); intros <;> first | (exact h (by grind) (by grind)) | (unfold needI; rw [if_pos (show I 0 41 = 0 ∧ I 0 38 = 4 ∧ I 0 39 = c by grind)]; exact ⟨rfl, rfl, rfl⟩) | (unfold needI; rw [if_neg (show ¬ (I 0 41 = 0 ∧ I 0 38 = 4 ∧ I 0 39 = c) by grind)]; exact ⟨rfl, rfl, rfl⟩))

theorem r_12_isNumber_0 {X : Ctx} (F : Fx X cX12_isNumber RX12 3 2 0 0) {Φ : Option Value → HS → List Nat → Prop} (E : Ex X none 0 0 Φ) {I A : Nat → Nat → Int32} {J : Nat → Nat → Int64} {x1 x2 : Int32}
    (e_1 : ((I 0 41) = 0) → ((I 0 38) = 2) → ((I 0 39) < x1) → Φ none (mS (wrongI I (2 : Int32) (I 0 40)) A J) plM)
    (e_2 : ((I 0 41) = 0) → ((I 0 38) = 2) → (¬ ((I 0 39) < x1)) → ((I 0 39) ≤ x2) → Φ none (mS I A J) plM)
    (e_3 : ((I 0 41) = 0) → ((I 0 38) = 2) → (¬ ((I 0 39) < x1)) → (¬ ((I 0 39) ≤ x2)) → Φ none (mS (wrongI I (2 : Int32) (I 0 40)) A J) plM)
    (e_4 : ((I 0 41) = 0) → (¬ ((I 0 38) = 2)) → Φ none (mS (wrongI I (1 : Int32) (I 0 40)) A J) plM)
    (e_5 : (¬ ((I 0 41) = 0)) → Φ none (mS I A J) plM) :
    WA X (mS I A J) plM 0 0 0 [(0, .ref 0), (1, .int x1), (2, .int x2)] [] := by
  refine a_aload_n F 0 dX12_isNumber_0 rfl rfl ?_
  refine a_callV (b := 0) (As := []) (st := []) (ci := 12) F (c_fine (xl X) I A J ) ml_12_310 im_yX12_fine se_yX12_fine (by decide) (by decide) rfl (by decide) rfl rfl dX12_isNumber_1 (by decide) (Nat.le_refl 0) (Nat.le_refl 0) (hl_r (by decide) (hl_i (hl_i hl_nil))) hs_nil ?_
  rintro _ _ _ ⟨rfl, rfl, rfl⟩ _
  show WA X (mS I A J) plM 0 0 4 [(0, .ref 0), (1, .int x1), (2, .int x2)] [.int (if (I 0 41) = 0 then 1 else 0)]
  refine a_ite (fun (c_1 : (I 0 41) = 0) => ?_) (fun (c_1 : ¬ ((I 0 41) = 0)) => ?_)
  · refine a_if_ne (tgt := 8) F dX12_isNumber_4 (by decide) (fun (c_2 : ¬ (1 : Int32) = 0) => ?_) (fun (c_2 : (1 : Int32) = 0) => ?_)
    · refine a_aload_n F 0 dX12_isNumber_8 rfl rfl ?_
      refine a_geti F fl_12_302 rfl (by decide) rfl dX12_isNumber_9 ?_
      refine a_iconst (v := 2) F dX12_isNumber_12 (by decide) ?_
      refine a_icmp_eq (tgt := 28) F dX12_isNumber_13 (by decide) (fun (c_3 : (I 0 38) = 2) => ?_) (fun (c_3 : ¬ ((I 0 38) = 2)) => ?_)
      · refine a_aload_n F 0 dX12_isNumber_28 rfl rfl ?_
        refine a_geti F fl_12_296 rfl (by decide) rfl dX12_isNumber_29 ?_
        refine a_iload_n F 1 dX12_isNumber_32 rfl rfl ?_
        refine a_icmp_lt (tgt := 44) F dX12_isNumber_33 (by decide) (fun (c_4 : (I 0 39) < x1) => ?_) (fun (c_4 : ¬ ((I 0 39) < x1)) => ?_)
        · refine a_aload_n F 0 dX12_isNumber_44 rfl rfl ?_
          refine a_iconst (v := 2) F dX12_isNumber_45 (by decide) ?_
          refine a_aload_n F 0 dX12_isNumber_46 rfl rfl ?_
          refine a_geti F fl_12_293 rfl (by decide) rfl dX12_isNumber_47 ?_
          refine a_callV (b := 0) (As := [.int 2, .int (I 0 40)]) (st := []) (ci := 12) F (c_wrong (xl X) I A J 2 (I 0 40)) ml_12_319 im_yX12_wrong se_yX12_wrong (by decide) (by decide) rfl (by decide) rfl rfl dX12_isNumber_50 (by decide) (Nat.le_refl 0) (Nat.le_refl 0) (hl_r (by decide) (hl_i (hl_i hl_nil))) hs_nil ?_
          rintro _ _ _ ⟨rfl, rfl, rfl⟩ _
          show WA X (mS (wrongI I (2 : Int32) (I 0 40)) A J) plM 0 0 53 [(0, .ref 0), (1, .int x1), (2, .int x2)] []
          exact a_vret F E dX12_isNumber_53 (Nat.le_refl 0) (Nat.le_refl 0) (e_1 c_1 c_3 c_4)
        · refine a_aload_n F 0 dX12_isNumber_36 rfl rfl ?_
          refine a_geti F fl_12_296 rfl (by decide) rfl dX12_isNumber_37 ?_
          refine a_iload_n F 2 dX12_isNumber_40 rfl rfl ?_
          refine a_icmp_le (tgt := 53) F dX12_isNumber_41 (by decide) (fun (c_5 : (I 0 39) ≤ x2) => ?_) (fun (c_5 : ¬ ((I 0 39) ≤ x2)) => ?_)
          · exact a_vret F E dX12_isNumber_53 (Nat.le_refl 0) (Nat.le_refl 0) (e_2 c_1 c_3 c_4 c_5)
          · refine a_aload_n F 0 dX12_isNumber_44 rfl rfl ?_
            refine a_iconst (v := 2) F dX12_isNumber_45 (by decide) ?_
            refine a_aload_n F 0 dX12_isNumber_46 rfl rfl ?_
            refine a_geti F fl_12_293 rfl (by decide) rfl dX12_isNumber_47 ?_
            refine a_callV (b := 0) (As := [.int 2, .int (I 0 40)]) (st := []) (ci := 12) F (c_wrong (xl X) I A J 2 (I 0 40)) ml_12_319 im_yX12_wrong se_yX12_wrong (by decide) (by decide) rfl (by decide) rfl rfl dX12_isNumber_50 (by decide) (Nat.le_refl 0) (Nat.le_refl 0) (hl_r (by decide) (hl_i (hl_i hl_nil))) hs_nil ?_
            rintro _ _ _ ⟨rfl, rfl, rfl⟩ _
            show WA X (mS (wrongI I (2 : Int32) (I 0 40)) A J) plM 0 0 53 [(0, .ref 0), (1, .int x1), (2, .int x2)] []
            exact a_vret F E dX12_isNumber_53 (Nat.le_refl 0) (Nat.le_refl 0) (e_3 c_1 c_3 c_4 c_5)
      · refine a_aload_n F 0 dX12_isNumber_16 rfl rfl ?_
        refine a_iconst (v := 1) F dX12_isNumber_17 (by decide) ?_
        refine a_aload_n F 0 dX12_isNumber_18 rfl rfl ?_
        refine a_geti F fl_12_293 rfl (by decide) rfl dX12_isNumber_19 ?_
        refine a_callV (b := 0) (As := [.int 1, .int (I 0 40)]) (st := []) (ci := 12) F (c_wrong (xl X) I A J 1 (I 0 40)) ml_12_319 im_yX12_wrong se_yX12_wrong (by decide) (by decide) rfl (by decide) rfl rfl dX12_isNumber_22 (by decide) (Nat.le_refl 0) (Nat.le_refl 0) (hl_r (by decide) (hl_i (hl_i hl_nil))) hs_nil ?_
        rintro _ _ _ ⟨rfl, rfl, rfl⟩ _
        show WA X (mS (wrongI I (1 : Int32) (I 0 40)) A J) plM 0 0 25 [(0, .ref 0), (1, .int x1), (2, .int x2)] []
        refine a_goto (tgt := 53) F dX12_isNumber_25 (by decide) ?_
        exact a_vret F E dX12_isNumber_53 (Nat.le_refl 0) (Nat.le_refl 0) (e_4 c_1 c_3)
    · exact absurd c_2 (by decide)
  · refine a_if_ne (tgt := 8) F dX12_isNumber_4 (by decide) (fun (c_6 : ¬ (0 : Int32) = 0) => ?_) (fun (c_6 : (0 : Int32) = 0) => ?_)
    · exact absurd c_6 (by decide)
    · exact a_vret F E dX12_isNumber_7 (Nat.le_refl 0) (Nat.le_refl 0) (e_5 c_1)

set_option maxRecDepth 10000 in
theorem c_isNumber (l : Launch) (I A : Nat → Nat → Int32) (J : Nat → Nat → Int64) (a b : Int32) : Con l 2 yX12_isNumber cX12_isNumber 3 none [.ref 0, .int a, .int b] (mS I A J) plM 0 0 (PM none (numI I a b) A J) := by
  refine Con.of (by decide) (Nat.le_of_ble_eq_true rfl) (fun X hX9 hn9 F E => ?_)
  refine r_12_isNumber_0 F E ?_ ?_ ?_ ?_ ?_ <;> (clear F E hn9 hX9; (try clear X); intros <;> (unfold numI; first | (rw [if_pos (show ¬ I 0 41 = 0 by grind)]; exact ⟨rfl, rfl, rfl⟩) | (rw [if_neg (show ¬ ¬ I 0 41 = 0 by grind), if_pos (show ¬ I 0 38 = 2 by grind)]; exact ⟨rfl, rfl, rfl⟩) | (rw [if_neg (show ¬ ¬ I 0 41 = 0 by grind), if_neg (show ¬ ¬ I 0 38 = 2 by grind), if_pos (show I 0 39 < a ∨ b < I 0 39 by grind)]; exact ⟨rfl, rfl, rfl⟩) | (rw [if_neg (show ¬ ¬ I 0 41 = 0 by grind), if_neg (show ¬ ¬ I 0 38 = 2 by grind), if_neg (show ¬ (I 0 39 < a ∨ b < I 0 39) by grind)]; exact ⟨rfl, rfl, rfl⟩)))

theorem r_12_beginText_0 {X : Ctx} (F : Fx X cX12_beginText RX12 2 3 0 0) {Φ : Option Value → HS → List Nat → Prop} (E : Ex X none 0 0 Φ) {I A : Nat → Nat → Int32} {J : Nat → Nat → Int64} {x1 : Int32}
    (o_1 : ∃ n i, n ≤ 400 ∧ i ≤ n ∧ x1 = nI n ∧ (0 : Int32) = nI i)
    (e_2 : Φ none (mS (gonI (up2 (up2 (up2 (up2 (up2 I 0 36 x1) 0 35 0) 0 37 0) 0 41 0) 0 42 (-1)) A) A J) plM) :
    WA X (mS I A J) plM 0 0 0 [(0, .ref 0), (1, .int x1)] [] := by
  refine a_aload_n F 0 dX12_beginText_0 rfl rfl ?_
  refine a_iload_n F 1 dX12_beginText_1 rfl rfl ?_
  refine a_puti F fl_12_290 rfl rfl rfl rfl (by decide) rfl dX12_beginText_2 ?_
  refine a_aload_n F 0 dX12_beginText_5 rfl rfl ?_
  refine a_iconst (v := 0) F dX12_beginText_6 (by decide) ?_
  refine a_puti F fl_12_167 rfl rfl rfl rfl (by decide) rfl dX12_beginText_7 ?_
  refine a_aload_n F 0 dX12_beginText_10 rfl rfl ?_
  refine a_iconst (v := 0) F dX12_beginText_11 (by decide) ?_
  refine a_puti F fl_12_287 rfl rfl rfl rfl (by decide) rfl dX12_beginText_12 ?_
  refine a_aload_n F 0 dX12_beginText_15 rfl rfl ?_
  refine a_iconst (v := 0) F dX12_beginText_16 (by decide) ?_
  refine a_puti F fl_12_307 rfl rfl rfl rfl (by decide) rfl dX12_beginText_17 ?_
  refine a_aload_n F 0 dX12_beginText_20 rfl rfl ?_
  refine a_iconst (v := (-1)) F dX12_beginText_21 (by decide) ?_
  refine a_puti F fl_12_60 rfl rfl rfl rfl (by decide) rfl dX12_beginText_22 ?_
  refine a_aload_n F 0 dX12_beginText_25 rfl rfl ?_
  refine a_callV (b := 0) (As := []) (st := []) (ci := 12) F (c_goI (xl X) (up2 (up2 (up2 (up2 (up2 I 0 36 x1) 0 35 0) 0 37 0) 0 41 0) 0 42 (-1)) A J  (o_1)) ml_12_316 im_yX12_go se_yX12_go (by decide) (by decide) rfl (by decide) rfl rfl dX12_beginText_26 (by decide) (Nat.le_refl 0) (Nat.le_refl 0) (hl_r (by decide) (hl_i hl_nil)) hs_nil ?_
  rintro _ _ _ ⟨rfl, rfl, rfl⟩ _
  show WA X (mS (gonI (up2 (up2 (up2 (up2 (up2 I 0 36 x1) 0 35 0) 0 37 0) 0 41 0) 0 42 (-1)) A) A J) plM 0 0 29 [(0, .ref 0), (1, .int x1)] []
  exact a_vret F E dX12_beginText_29 (Nat.le_refl 0) (Nat.le_refl 0) (e_2)

set_option maxRecDepth 10000 in
theorem c_beginText (l : Launch) (I A : Nat → Nat → Int32) (J : Nat → Nat → Int64) (n : Int32) (h : 0 ≤ n ∧ n ≤ 400) : Con l 3 yX12_beginText cX12_beginText 2 none [.ref 0, .int n] (mS I A J) plM 0 0 (PM none (gonI (up2 (up2 (up2 (up2 (up2 I 0 36 n) 0 35 0) 0 37 0) 0 41 0) 0 42 (-1)) A) A J) := by
  refine Con.of (by decide) (Nat.le_of_ble_eq_true rfl) (fun X hX9 hn9 F E => ?_)
  refine r_12_beginText_0 F E ?_ ?_ <;> (clear F E hn9 hX9; (try clear X); intros <;> first | exact ⟨rfl, rfl, rfl⟩ | (obtain ⟨k, hk, e⟩ := nI_of2 (M := 400) (n := 400) rfl (by grind) h.2; exact ⟨k, 0, hk, by omega, e, rfl⟩))
