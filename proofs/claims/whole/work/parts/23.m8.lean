theorem up2_id {α : Type} (f : Nat → Nat → α) (p k : Nat) : up2 f p k (f p k) = f := by
  funext q j; by_cases hq : q = p
  · subst hq; by_cases hj : j = k <;> simp [up2, va_up, hj]
  · simp [up2, hq]
theorem up2_at {α : Type} {f : Nat → Nat → α} {p k : Nat} {v : α} (h : f p k = v) : up2 f p k v = f := by rw [← h]; exact up2_id f p k
/-- the rows of results are in order: n of them, each at a slot below 3200 -/
def okR (I A : Nat → Nat → Int32) : Prop := I 0 16 ≤ 3200 ∧ ∀ i : Int32, 0 ≤ i → i < I 0 16 → 0 ≤ A 15 i.toNatClampNeg ∧ A 15 i.toNatClampNeg < 3200
def feedB (a b c d e : Int32) (k : Nat) : Int32 := ((if 4 ≤ nI k then (if 8 ≤ nI k then (if 12 ≤ nI k then (if 16 ≤ nI k then e else d) else c) else b) else a) >>> ((24 - (8 * (nI k - nI k / 4 * 4))) &&& 31)) &&& 255

theorem r_12_result_0 {X : Ctx} (F : Fx X cX12_result RX12 4 2 0 0) {Φ : Option Value → HS → List Nat → Prop} (E : Ex X (some .int) 0 0 Φ) {I A : Nat → Nat → Int32} {J : Nat → Nat → Int64} {x1 x2 x3 : Int32}
    (e_1 : (0 ≤ x1 ∧ x1 < (I 0 16)) → (x2 < 0) → Φ (some (.int 0)) (mS (up2 (up2 I 0 0 0) 0 0 (2 : Int32)) A J) plM)
    (e_2 : (0 ≤ x1 ∧ x1 < (I 0 16)) → (¬ (x2 < 0)) → (1 < x2) → Φ (some (.int 0)) (mS (up2 (up2 I 0 0 0) 0 0 (2 : Int32)) A J) plM)
    (e_3 : (0 ≤ x1 ∧ x1 < (I 0 16)) → (¬ (x2 < 0)) → (¬ (1 < x2)) → (x3 < 0) → Φ (some (.int 0)) (mS (up2 (up2 I 0 0 0) 0 0 (2 : Int32)) A J) plM)
    (e_4 : (0 ≤ x1 ∧ x1 < (I 0 16)) → (¬ (x2 < 0)) → (¬ (1 < x2)) → (¬ (x3 < 0)) → (25 < x3) → Φ (some (.int 0)) (mS (up2 (up2 I 0 0 0) 0 0 (2 : Int32)) A J) plM)
    (o_5 : (0 ≤ x1 ∧ x1 < (I 0 16)) → (¬ (x2 < 0)) → (¬ (1 < x2)) → (¬ (x3 < 0)) → (¬ (25 < x3)) → vp_in x1 3200)
    (o_6 : (0 ≤ x1 ∧ x1 < (I 0 16)) → (¬ (x2 < 0)) → (¬ (1 < x2)) → (¬ (x3 < 0)) → (¬ (25 < x3)) → vp_in (((52 * (A 15 x1.toNatClampNeg)) + (26 * x2)) + x3) 166400)
    (e_7 : (0 ≤ x1 ∧ x1 < (I 0 16)) → (¬ (x2 < 0)) → (¬ (1 < x2)) → (¬ (x3 < 0)) → (¬ (25 < x3)) → Φ (some (.int (A 13 (((52 * (A 15 x1.toNatClampNeg)) + (26 * x2)) + x3).toNatClampNeg))) (mS (up2 I 0 0 0) A J) plM)
    (e_8 : (¬ (0 ≤ x1 ∧ x1 < (I 0 16))) → Φ (some (.int 0)) (mS (up2 (up2 I 0 0 0) 0 0 (1 : Int32)) A J) plM) :
    WA X (mS I A J) plM 0 0 0 [(0, .ref 0), (1, .int x1), (2, .int x2), (3, .int x3)] [] := by
  refine a_aload_n F 0 dX12_result_0 rfl rfl ?_
  refine a_iconst (v := 0) F dX12_result_1 (by decide) ?_
  refine a_puti F fl_12_1 rfl rfl rfl rfl (by decide) rfl dX12_result_2 ?_
  refine a_aload_n F 0 dX12_result_5 rfl rfl ?_
  refine a_aload_n F 0 dX12_result_6 rfl rfl ?_
  refine a_iload_n F 1 dX12_result_7 rfl rfl ?_
  refine a_callV (b := 0) (As := [.int x1]) (st := [.ref 0]) (ci := 12) F (c_isResult (xl X) (up2 I 0 0 0) A J x1) ml_12_246 im_yX12_isResult se_yX12_isResult (by decide) (by decide) rfl (by decide) rfl rfl dX12_result_8 (Nat.le_of_ble_eq_true rfl) (Nat.le_refl 0) (Nat.le_refl 0) (hl_r (by decide) (hl_i (hl_i (hl_i hl_nil)))) (hs_r (by decide) hs_nil) ?_
  rintro _ _ _ ⟨rfl, rfl, rfl⟩ _
  show WA X (mS (up2 I 0 0 0) A J) plM 0 0 11 [(0, .ref 0), (1, .int x1), (2, .int x2), (3, .int x3)] [.int (if 0 ≤ x1 ∧ x1 < (I 0 16) then 1 else 0), .ref 0]
  refine a_ite (fun (c_1 : 0 ≤ x1 ∧ x1 < (I 0 16)) => ?_) (fun (c_1 : ¬ (0 ≤ x1 ∧ x1 < (I 0 16))) => ?_)
  · refine a_iconst (v := 1) F dX12_result_11 (by decide) ?_
    refine a_callV (b := 0) (As := [.int 1, .int 1]) (st := []) (ci := 12) F (c_may1 (xl X) (up2 I 0 0 0) A J (1 : Int32) (by decide) rfl) ml_12_155 im_yX12_may se_yX12_may (by decide) (by decide) rfl (by decide) rfl rfl dX12_result_12 (by decide) (Nat.le_refl 0) (Nat.le_refl 0) (hl_r (by decide) (hl_i (hl_i (hl_i hl_nil)))) hs_nil ?_
    rintro _ _ _ ⟨rfl, rfl, rfl⟩ _
    show WA X (mS (up2 I 0 0 0) A J) plM 0 0 15 [(0, .ref 0), (1, .int x1), (2, .int x2), (3, .int x3)] [.int 1]
    refine a_if_eq (tgt := 50) F dX12_result_15 (by decide) (fun (c_2 : (1 : Int32) = 0) => ?_) (fun (c_2 : ¬ ((1 : Int32) = 0)) => ?_)
    · exact absurd c_2 (by decide)
    · refine a_aload_n F 0 dX12_result_18 rfl rfl ?_
      refine a_iload_n F 2 dX12_result_19 rfl rfl ?_
      refine a_if_lt (tgt := 42) F dX12_result_20 (by decide) (fun (c_3 : x2 < 0) => ?_) (fun (c_3 : ¬ (x2 < 0)) => ?_)
      · refine a_iconst (v := 0) F dX12_result_42 (by decide) ?_
        refine a_iconst (v := 2) F dX12_result_43 (by decide) ?_
        refine a_callV (b := 0) (As := [.int 0, .int 2]) (st := []) (ci := 12) F (c_may0 (xl X) (up2 I 0 0 0) A J (2 : Int32) (by decide) rfl) ml_12_155 im_yX12_may se_yX12_may (by decide) (by decide) rfl (by decide) rfl rfl dX12_result_44 (by decide) (Nat.le_refl 0) (Nat.le_refl 0) (hl_r (by decide) (hl_i (hl_i (hl_i hl_nil)))) hs_nil ?_
        rintro _ _ _ ⟨rfl, rfl, rfl⟩ _
        show WA X (mS (up2 (up2 I 0 0 0) 0 0 (2 : Int32)) A J) plM 0 0 47 [(0, .ref 0), (1, .int x1), (2, .int x2), (3, .int x3)] [.int 0]
        refine a_if_ne (tgt := 52) F dX12_result_47 (by decide) (fun (c_4 : ¬ (0 : Int32) = 0) => ?_) (fun (c_4 : (0 : Int32) = 0) => ?_)
        · exact absurd c_4 (by decide)
        · refine a_iconst (v := 0) F dX12_result_50 (by decide) ?_
          exact a_iret F E dX12_result_51 (Nat.le_refl 0) (Nat.le_refl 0) (e_1 c_1 c_3)
      · refine a_iload_n F 2 dX12_result_23 rfl rfl ?_
        refine a_iconst (v := 1) F dX12_result_24 (by decide) ?_
        refine a_icmp_gt (tgt := 42) F dX12_result_25 (by decide) (fun (c_5 : 1 < x2) => ?_) (fun (c_5 : ¬ (1 < x2)) => ?_)
        · refine a_iconst (v := 0) F dX12_result_42 (by decide) ?_
          refine a_iconst (v := 2) F dX12_result_43 (by decide) ?_
          refine a_callV (b := 0) (As := [.int 0, .int 2]) (st := []) (ci := 12) F (c_may0 (xl X) (up2 I 0 0 0) A J (2 : Int32) (by decide) rfl) ml_12_155 im_yX12_may se_yX12_may (by decide) (by decide) rfl (by decide) rfl rfl dX12_result_44 (by decide) (Nat.le_refl 0) (Nat.le_refl 0) (hl_r (by decide) (hl_i (hl_i (hl_i hl_nil)))) hs_nil ?_
          rintro _ _ _ ⟨rfl, rfl, rfl⟩ _
          show WA X (mS (up2 (up2 I 0 0 0) 0 0 (2 : Int32)) A J) plM 0 0 47 [(0, .ref 0), (1, .int x1), (2, .int x2), (3, .int x3)] [.int 0]
          refine a_if_ne (tgt := 52) F dX12_result_47 (by decide) (fun (c_6 : ¬ (0 : Int32) = 0) => ?_) (fun (c_6 : (0 : Int32) = 0) => ?_)
          · exact absurd c_6 (by decide)
          · refine a_iconst (v := 0) F dX12_result_50 (by decide) ?_
            exact a_iret F E dX12_result_51 (Nat.le_refl 0) (Nat.le_refl 0) (e_2 c_1 c_3 c_5)
        · refine a_iload_n F 3 dX12_result_28 rfl rfl ?_
          refine a_if_lt (tgt := 42) F dX12_result_29 (by decide) (fun (c_7 : x3 < 0) => ?_) (fun (c_7 : ¬ (x3 < 0)) => ?_)
          · refine a_iconst (v := 0) F dX12_result_42 (by decide) ?_
            refine a_iconst (v := 2) F dX12_result_43 (by decide) ?_
            refine a_callV (b := 0) (As := [.int 0, .int 2]) (st := []) (ci := 12) F (c_may0 (xl X) (up2 I 0 0 0) A J (2 : Int32) (by decide) rfl) ml_12_155 im_yX12_may se_yX12_may (by decide) (by decide) rfl (by decide) rfl rfl dX12_result_44 (by decide) (Nat.le_refl 0) (Nat.le_refl 0) (hl_r (by decide) (hl_i (hl_i (hl_i hl_nil)))) hs_nil ?_
            rintro _ _ _ ⟨rfl, rfl, rfl⟩ _
            show WA X (mS (up2 (up2 I 0 0 0) 0 0 (2 : Int32)) A J) plM 0 0 47 [(0, .ref 0), (1, .int x1), (2, .int x2), (3, .int x3)] [.int 0]
            refine a_if_ne (tgt := 52) F dX12_result_47 (by decide) (fun (c_8 : ¬ (0 : Int32) = 0) => ?_) (fun (c_8 : (0 : Int32) = 0) => ?_)
            · exact absurd c_8 (by decide)
            · refine a_iconst (v := 0) F dX12_result_50 (by decide) ?_
              exact a_iret F E dX12_result_51 (Nat.le_refl 0) (Nat.le_refl 0) (e_3 c_1 c_3 c_5 c_7)
          · refine a_iload_n F 3 dX12_result_32 rfl rfl ?_
            refine a_bipush (v := 25) F dX12_result_33 (by decide) ?_
            refine a_icmp_gt (tgt := 42) F dX12_result_35 (by decide) (fun (c_9 : 25 < x3) => ?_) (fun (c_9 : ¬ (25 < x3)) => ?_)
            · refine a_iconst (v := 0) F dX12_result_42 (by decide) ?_
              refine a_iconst (v := 2) F dX12_result_43 (by decide) ?_
              refine a_callV (b := 0) (As := [.int 0, .int 2]) (st := []) (ci := 12) F (c_may0 (xl X) (up2 I 0 0 0) A J (2 : Int32) (by decide) rfl) ml_12_155 im_yX12_may se_yX12_may (by decide) (by decide) rfl (by decide) rfl rfl dX12_result_44 (by decide) (Nat.le_refl 0) (Nat.le_refl 0) (hl_r (by decide) (hl_i (hl_i (hl_i hl_nil)))) hs_nil ?_
              rintro _ _ _ ⟨rfl, rfl, rfl⟩ _
              show WA X (mS (up2 (up2 I 0 0 0) 0 0 (2 : Int32)) A J) plM 0 0 47 [(0, .ref 0), (1, .int x1), (2, .int x2), (3, .int x3)] [.int 0]
              refine a_if_ne (tgt := 52) F dX12_result_47 (by decide) (fun (c_10 : ¬ (0 : Int32) = 0) => ?_) (fun (c_10 : (0 : Int32) = 0) => ?_)
              · exact absurd c_10 (by decide)
              · refine a_iconst (v := 0) F dX12_result_50 (by decide) ?_
                exact a_iret F E dX12_result_51 (Nat.le_refl 0) (Nat.le_refl 0) (e_4 c_1 c_3 c_5 c_7 c_9)
            · refine a_iconst (v := 1) F dX12_result_38 (by decide) ?_
              refine a_goto (tgt := 43) F dX12_result_39 (by decide) ?_
              refine a_iconst (v := 2) F dX12_result_43 (by decide) ?_
              refine a_callV (b := 0) (As := [.int 1, .int 2]) (st := []) (ci := 12) F (c_may1 (xl X) (up2 I 0 0 0) A J (2 : Int32) (by decide) rfl) ml_12_155 im_yX12_may se_yX12_may (by decide) (by decide) rfl (by decide) rfl rfl dX12_result_44 (by decide) (Nat.le_refl 0) (Nat.le_refl 0) (hl_r (by decide) (hl_i (hl_i (hl_i hl_nil)))) hs_nil ?_
              rintro _ _ _ ⟨rfl, rfl, rfl⟩ _
              show WA X (mS (up2 I 0 0 0) A J) plM 0 0 47 [(0, .ref 0), (1, .int x1), (2, .int x2), (3, .int x3)] [.int 1]
              refine a_if_ne (tgt := 52) F dX12_result_47 (by decide) (fun (c_11 : ¬ (1 : Int32) = 0) => ?_) (fun (c_11 : (1 : Int32) = 0) => ?_)
              · refine a_aload_n F 0 dX12_result_52 rfl rfl ?_
                refine a_getr (b := 13) F fl_12_33 rfl (by decide) rfl rfl dX12_result_53 ?_
                refine a_bipush (v := 52) F dX12_result_56 (by decide) ?_
                refine a_aload_n F 0 dX12_result_58 rfl rfl ?_
                refine a_getr (b := 15) F fl_12_39 rfl (by decide) rfl rfl dX12_result_59 ?_
                refine a_iload_n F 1 dX12_result_62 rfl rfl ?_
                refine a_iald F (by decide) rfl (o_5 c_1 c_3 c_5 c_7 c_9) dX12_result_63 ?_
                refine a_imul F dX12_result_64 ?_
                refine a_bipush (v := 26) F dX12_result_65 (by decide) ?_
                refine a_iload_n F 2 dX12_result_67 rfl rfl ?_
                refine a_imul F dX12_result_68 ?_
                refine a_iadd F dX12_result_69 ?_
                refine a_iload_n F 3 dX12_result_70 rfl rfl ?_
                refine a_iadd F dX12_result_71 ?_
                refine a_iald F (by decide) rfl (o_6 c_1 c_3 c_5 c_7 c_9) dX12_result_72 ?_
                exact a_iret F E dX12_result_73 (Nat.le_refl 0) (Nat.le_refl 0) (e_7 c_1 c_3 c_5 c_7 c_9)
              · exact absurd c_11 (by decide)
  · refine a_iconst (v := 1) F dX12_result_11 (by decide) ?_
    refine a_callV (b := 0) (As := [.int 0, .int 1]) (st := []) (ci := 12) F (c_may0 (xl X) (up2 I 0 0 0) A J (1 : Int32) (by decide) rfl) ml_12_155 im_yX12_may se_yX12_may (by decide) (by decide) rfl (by decide) rfl rfl dX12_result_12 (by decide) (Nat.le_refl 0) (Nat.le_refl 0) (hl_r (by decide) (hl_i (hl_i (hl_i hl_nil)))) hs_nil ?_
    rintro _ _ _ ⟨rfl, rfl, rfl⟩ _
    show WA X (mS (up2 (up2 I 0 0 0) 0 0 (1 : Int32)) A J) plM 0 0 15 [(0, .ref 0), (1, .int x1), (2, .int x2), (3, .int x3)] [.int 0]
    refine a_if_eq (tgt := 50) F dX12_result_15 (by decide) (fun (c_12 : (0 : Int32) = 0) => ?_) (fun (c_12 : ¬ ((0 : Int32) = 0)) => ?_)
    · refine a_iconst (v := 0) F dX12_result_50 (by decide) ?_
      exact a_iret F E dX12_result_51 (Nat.le_refl 0) (Nat.le_refl 0) (e_8 c_1)
    · exact absurd c_12 (by decide)

set_option maxRecDepth 10000 in
theorem c_result (l : Launch) (I A : Nat → Nat → Int32) (J : Nat → Nat → Int64) (i a b : Int32) (h : okR I A) : Con l 2 yX12_result cX12_result 4 (some .int) [.ref 0, .int i, .int a, .int b] (mS I A J) plM 0 0 (if 0 ≤ i ∧ i < I 0 16 then (if 0 ≤ a ∧ a ≤ 1 ∧ 0 ≤ b ∧ b ≤ 25 then PM (some (.int (A 13 (52 * A 15 i.toNatClampNeg + 26 * a + b).toNatClampNeg))) (up2 I 0 0 0) A J else PM (some (.int 0)) (up2 I 0 0 2) A J) else PM (some (.int 0)) (up2 I 0 0 1) A J) := by
  refine Con.of (by decide) (Nat.le_of_ble_eq_true rfl) (fun X hX9 hn9 F E => ?_)
  refine r_12_result_0 F E ?_ ?_ ?_ ?_ ?_ ?_ ?_ ?_ <;> (clear F E hn9 hX9; (try clear X); intros <;> first | exact in_i (N := 3200) rfl (by have h1 := h.1; grind) | exact in_i (N := 166400) rfl (by have h1 := h.1; have h2 := h.2 i (by grind) (by grind); grind) | (rw [if_pos (show 0 ≤ i ∧ i < I 0 16 by grind), if_pos (show 0 ≤ a ∧ a ≤ 1 ∧ 0 ≤ b ∧ b ≤ 25 by grind)]; exact ⟨rfl, rfl, rfl⟩) | (rw [if_pos (show 0 ≤ i ∧ i < I 0 16 by grind), if_neg (show ¬ (0 ≤ a ∧ a ≤ 1 ∧ 0 ≤ b ∧ b ≤ 25) by grind)]; exact ⟨rfl, by rw [up2_up2], rfl⟩) | (rw [if_neg (show ¬ (0 ≤ i ∧ i < I 0 16) by grind)]; exact ⟨rfl, by rw [up2_up2], rfl⟩))

theorem r_12_way_0 {X : Ctx} (F : Fx X cX12_way RX12 3 2 0 0) {Φ : Option Value → HS → List Nat → Prop} (E : Ex X (some .int) 0 0 Φ) {I A : Nat → Nat → Int32} {J : Nat → Nat → Int64} {x1 x2 : Int32}
    (e_1 : (0 ≤ x1 ∧ x1 < (I 0 16)) → (x2 < 0) → Φ (some (.int (-1))) (mS (up2 I 0 0 0) A J) plM)
    (e_2 : (0 ≤ x1 ∧ x1 < (I 0 16)) → (¬ (x2 < 0)) → ((I 0 17) ≤ x2) → Φ (some (.int (-1))) (mS (up2 I 0 0 0) A J) plM)
    (o_3 : (0 ≤ x1 ∧ x1 < (I 0 16)) → (¬ (x2 < 0)) → (¬ ((I 0 17) ≤ x2)) → vp_in x1 3200)
    (o_4 : (0 ≤ x1 ∧ x1 < (I 0 16)) → (¬ (x2 < 0)) → (¬ ((I 0 17) ≤ x2)) → vp_in ((4 * (A 15 x1.toNatClampNeg)) + x2) 12800)
    (e_5 : (0 ≤ x1 ∧ x1 < (I 0 16)) → (¬ (x2 < 0)) → (¬ ((I 0 17) ≤ x2)) → Φ (some (.int (A 14 ((4 * (A 15 x1.toNatClampNeg)) + x2).toNatClampNeg))) (mS (up2 I 0 0 0) A J) plM)
    (e_6 : (¬ (0 ≤ x1 ∧ x1 < (I 0 16))) → Φ (some (.int 0)) (mS (up2 (up2 I 0 0 0) 0 0 (1 : Int32)) A J) plM) :
    WA X (mS I A J) plM 0 0 0 [(0, .ref 0), (1, .int x1), (2, .int x2)] [] := by
  refine a_aload_n F 0 dX12_way_0 rfl rfl ?_
  refine a_iconst (v := 0) F dX12_way_1 (by decide) ?_
  refine a_puti F fl_12_1 rfl rfl rfl rfl (by decide) rfl dX12_way_2 ?_
  refine a_aload_n F 0 dX12_way_5 rfl rfl ?_
  refine a_aload_n F 0 dX12_way_6 rfl rfl ?_
  refine a_iload_n F 1 dX12_way_7 rfl rfl ?_
  refine a_callV (b := 0) (As := [.int x1]) (st := [.ref 0]) (ci := 12) F (c_isResult (xl X) (up2 I 0 0 0) A J x1) ml_12_246 im_yX12_isResult se_yX12_isResult (by decide) (by decide) rfl (by decide) rfl rfl dX12_way_8 (Nat.le_of_ble_eq_true rfl) (Nat.le_refl 0) (Nat.le_refl 0) (hl_r (by decide) (hl_i (hl_i hl_nil))) (hs_r (by decide) hs_nil) ?_
  rintro _ _ _ ⟨rfl, rfl, rfl⟩ _
  show WA X (mS (up2 I 0 0 0) A J) plM 0 0 11 [(0, .ref 0), (1, .int x1), (2, .int x2)] [.int (if 0 ≤ x1 ∧ x1 < (I 0 16) then 1 else 0), .ref 0]
  refine a_ite (fun (c_1 : 0 ≤ x1 ∧ x1 < (I 0 16)) => ?_) (fun (c_1 : ¬ (0 ≤ x1 ∧ x1 < (I 0 16))) => ?_)
  · refine a_iconst (v := 1) F dX12_way_11 (by decide) ?_
    refine a_callV (b := 0) (As := [.int 1, .int 1]) (st := []) (ci := 12) F (c_may1 (xl X) (up2 I 0 0 0) A J (1 : Int32) (by decide) rfl) ml_12_155 im_yX12_may se_yX12_may (by decide) (by decide) rfl (by decide) rfl rfl dX12_way_12 (by decide) (Nat.le_refl 0) (Nat.le_refl 0) (hl_r (by decide) (hl_i (hl_i hl_nil))) hs_nil ?_
    rintro _ _ _ ⟨rfl, rfl, rfl⟩ _
    show WA X (mS (up2 I 0 0 0) A J) plM 0 0 15 [(0, .ref 0), (1, .int x1), (2, .int x2)] [.int 1]
    refine a_if_ne (tgt := 20) F dX12_way_15 (by decide) (fun (c_2 : ¬ (1 : Int32) = 0) => ?_) (fun (c_2 : (1 : Int32) = 0) => ?_)
    · refine a_iload_n F 2 dX12_way_20 rfl rfl ?_
      refine a_if_lt (tgt := 50) F dX12_way_21 (by decide) (fun (c_3 : x2 < 0) => ?_) (fun (c_3 : ¬ (x2 < 0)) => ?_)
      · refine a_iconst (v := (-1)) F dX12_way_50 (by decide) ?_
        exact a_iret F E dX12_way_51 (Nat.le_refl 0) (Nat.le_refl 0) (e_1 c_1 c_3)
      · refine a_iload_n F 2 dX12_way_24 rfl rfl ?_
        refine a_aload_n F 0 dX12_way_25 rfl rfl ?_
        refine a_geti F fl_12_224 rfl (by decide) rfl dX12_way_26 ?_
        refine a_icmp_ge (tgt := 50) F dX12_way_29 (by decide) (fun (c_4 : (I 0 17) ≤ x2) => ?_) (fun (c_4 : ¬ ((I 0 17) ≤ x2)) => ?_)
        · refine a_iconst (v := (-1)) F dX12_way_50 (by decide) ?_
          exact a_iret F E dX12_way_51 (Nat.le_refl 0) (Nat.le_refl 0) (e_2 c_1 c_3 c_4)
        · refine a_aload_n F 0 dX12_way_32 rfl rfl ?_
          refine a_getr (b := 14) F fl_12_36 rfl (by decide) rfl rfl dX12_way_33 ?_
          refine a_iconst (v := 4) F dX12_way_36 (by decide) ?_
          refine a_aload_n F 0 dX12_way_37 rfl rfl ?_
          refine a_getr (b := 15) F fl_12_39 rfl (by decide) rfl rfl dX12_way_38 ?_
          refine a_iload_n F 1 dX12_way_41 rfl rfl ?_
          refine a_iald F (by decide) rfl (o_3 c_1 c_3 c_4) dX12_way_42 ?_
          refine a_imul F dX12_way_43 ?_
          refine a_iload_n F 2 dX12_way_44 rfl rfl ?_
          refine a_iadd F dX12_way_45 ?_
          refine a_iald F (by decide) rfl (o_4 c_1 c_3 c_4) dX12_way_46 ?_
          refine a_goto (tgt := 51) F dX12_way_47 (by decide) ?_
          exact a_iret F E dX12_way_51 (Nat.le_refl 0) (Nat.le_refl 0) (e_5 c_1 c_3 c_4)
    · exact absurd c_2 (by decide)
  · refine a_iconst (v := 1) F dX12_way_11 (by decide) ?_
    refine a_callV (b := 0) (As := [.int 0, .int 1]) (st := []) (ci := 12) F (c_may0 (xl X) (up2 I 0 0 0) A J (1 : Int32) (by decide) rfl) ml_12_155 im_yX12_may se_yX12_may (by decide) (by decide) rfl (by decide) rfl rfl dX12_way_12 (by decide) (Nat.le_refl 0) (Nat.le_refl 0) (hl_r (by decide) (hl_i (hl_i hl_nil))) hs_nil ?_
    rintro _ _ _ ⟨rfl, rfl, rfl⟩ _
    show WA X (mS (up2 (up2 I 0 0 0) 0 0 (1 : Int32)) A J) plM 0 0 15 [(0, .ref 0), (1, .int x1), (2, .int x2)] [.int 0]
    refine a_if_ne (tgt := 20) F dX12_way_15 (by decide) (fun (c_5 : ¬ (0 : Int32) = 0) => ?_) (fun (c_5 : (0 : Int32) = 0) => ?_)
    · exact absurd c_5 (by decide)
    · refine a_iconst (v := 0) F dX12_way_18 (by decide) ?_
      exact a_iret F E dX12_way_19 (Nat.le_refl 0) (Nat.le_refl 0) (e_6 c_1)

set_option maxRecDepth 10000 in
theorem c_way (l : Launch) (I A : Nat → Nat → Int32) (J : Nat → Nat → Int64) (i k : Int32) (h : okR I A) (hw : I 0 17 ≤ 4) : Con l 2 yX12_way cX12_way 3 (some .int) [.ref 0, .int i, .int k] (mS I A J) plM 0 0 (if 0 ≤ i ∧ i < I 0 16 then PM (some (.int (if 0 ≤ k ∧ k < I 0 17 then A 14 (4 * A 15 i.toNatClampNeg + k).toNatClampNeg else -1))) (up2 I 0 0 0) A J else PM (some (.int 0)) (up2 I 0 0 1) A J) := by
  refine Con.of (by decide) (Nat.le_of_ble_eq_true rfl) (fun X hX9 hn9 F E => ?_)
  refine r_12_way_0 F E ?_ ?_ ?_ ?_ ?_ ?_ <;> (clear F E hn9 hX9; (try clear X); intros <;> first | exact in_i (N := 3200) rfl (by have h1 := h.1; grind) | exact in_i (N := 12800) rfl (by have h1 := h.1; have h2 := h.2 i (by grind) (by grind); grind) | (rw [if_pos (show 0 ≤ i ∧ i < I 0 16 by grind), if_pos (show 0 ≤ k ∧ k < I 0 17 by grind)]; exact ⟨rfl, rfl, rfl⟩) | (rw [if_pos (show 0 ≤ i ∧ i < I 0 16 by grind), if_neg (show ¬ (0 ≤ k ∧ k < I 0 17) by grind)]; exact ⟨rfl, rfl, rfl⟩) | (rw [if_neg (show ¬ (0 ≤ i ∧ i < I 0 16) by grind)]; exact ⟨rfl, by rw [up2_up2], rfl⟩))

theorem r_12_feed_0 {X : Ctx} (F : Fx X cX12_feed RX12 8 1 0 0) {Φ : Option Value → HS → List Nat → Prop} (E : Ex X (some .int) 0 0 Φ) {I A : Nat → Nat → Int32} {J : Nat → Nat → Int64} {x1 x2 x3 x4 x5 : Int32}
    (e_1 : (((I 0 35) + 20) ≤ 400) → WA X (mS (up2 I 0 0 0) A J) plM 0 0 23 [(0, .ref 0), (1, .int x1), (2, .int x2), (3, .int x3), (4, .int x4), (5, .int x5), (6, .int 0)] [])
    (e_2 : (¬ (((I 0 35) + 20) ≤ 400)) → Φ (some (.int (-1))) (mS (up2 I 0 0 0) A J) plM) :
    WA X (mS I A J) plM 0 0 0 [(0, .ref 0), (1, .int x1), (2, .int x2), (3, .int x3), (4, .int x4), (5, .int x5)] [] := by
  refine a_aload_n F 0 dX12_feed_0 rfl rfl ?_
  refine a_iconst (v := 0) F dX12_feed_1 (by decide) ?_
  refine a_puti F fl_12_1 rfl rfl rfl rfl (by decide) rfl dX12_feed_2 ?_
  refine a_aload_n F 0 dX12_feed_5 rfl rfl ?_
  refine a_geti F fl_12_167 rfl (by decide) rfl dX12_feed_6 ?_
  refine a_bipush (v := 20) F dX12_feed_9 (by decide) ?_
  refine a_iadd F dX12_feed_11 ?_
  refine a_sipush (v := 400) F dX12_feed_12 (by decide) ?_
  refine a_icmp_le (tgt := 20) F dX12_feed_15 (by decide) (fun (c_1 : ((I 0 35) + 20) ≤ 400) => ?_) (fun (c_1 : ¬ (((I 0 35) + 20) ≤ 400)) => ?_)
  · refine a_iconst (v := 0) F dX12_feed_20 (by decide) ?_
    refine a_istore F dX12_feed_21 (by decide) rfl ?_
    refine a_sub [1, 2, 3, 4, 5, 6, 0] rfl ?_
    exact e_1 c_1
  · refine a_iconst (v := (-1)) F dX12_feed_18 (by decide) ?_
    exact a_iret F E dX12_feed_19 (Nat.le_refl 0) (Nat.le_refl 0) (e_2 c_1)

theorem r_12_feed_23 {X : Ctx} (F : Fx X cX12_feed RX12 8 1 0 0) {Φ : Option Value → HS → List Nat → Prop} (E : Ex X (some .int) 0 0 Φ) {I A : Nat → Nat → Int32} {J : Nat → Nat → Int64} {x1 x2 x3 x4 x5 x6 : Int32}
    (e_1 : (20 ≤ x6) → Φ (some (.int (I 0 35))) (mS I A J) plM)
    (o_2 : (¬ (20 ≤ x6)) → vp_in (I 0 35) 400)
    (e_3 : (¬ (20 ≤ x6)) → WA X (mS (up2 I 0 35 ((I 0 35) + 1)) (up1 A 34 (upd (A 34) (I 0 35).toNatClampNeg (((if 4 ≤ x6 then (if 8 ≤ x6 then (if 12 ≤ x6 then (if 16 ≤ x6 then x5 else x4) else x3) else x2) else x1) >>> ((24 - (8 * (x6 - x6 / 4 * 4))) &&& 31)) &&& 255))) J) plM 0 0 23 [(0, .ref 0), (1, .int x1), (2, .int x2), (3, .int x3), (4, .int x4), (5, .int x5), (6, .int (x6 + 1))] []) :
    WA X (mS I A J) plM 0 0 23 [(0, .ref 0), (1, .int x1), (2, .int x2), (3, .int x3), (4, .int x4), (5, .int x5), (6, .int x6)] [] := by
  refine a_iload F 6 dX12_feed_23 rfl ?_
  refine a_bipush (v := 20) F dX12_feed_25 (by decide) ?_
  refine a_icmp_ge (tgt := 120) F dX12_feed_27 (by decide) (fun (c_2 : 20 ≤ x6) => ?_) (fun (c_2 : ¬ (20 ≤ x6)) => ?_)
  · refine a_aload_n F 0 dX12_feed_120 rfl rfl ?_
    refine a_geti F fl_12_167 rfl (by decide) rfl dX12_feed_121 ?_
    exact a_iret F E dX12_feed_124 (Nat.le_refl 0) (Nat.le_refl 0) (e_1 c_2)
  · refine a_iload F 6 dX12_feed_30 rfl ?_
    refine a_iconst (v := 4) F dX12_feed_32 (by decide) ?_
    suffices k : ∀ z9 : Int32, z9 = (if 4 ≤ x6 then (if 8 ≤ x6 then (if 12 ≤ x6 then (if 16 ≤ x6 then x5 else x4) else x3) else x2) else x1) → WA X (mS I A J) plM 0 0 76 [(0, .ref 0), (1, .int x1), (2, .int x2), (3, .int x3), (4, .int x4), (5, .int x5), (6, .int x6)] [.int z9] by
      refine a_icmp_ge (tgt := 40) F dX12_feed_33 (by decide) (fun (c_3 : 4 ≤ x6) => ?_) (fun (c_3 : ¬ (4 ≤ x6)) => ?_)
      · refine a_iload F 6 dX12_feed_40 rfl ?_
        refine a_bipush (v := 8) F dX12_feed_42 (by decide) ?_
        refine a_icmp_ge (tgt := 51) F dX12_feed_44 (by decide) (fun (c_4 : 8 ≤ x6) => ?_) (fun (c_4 : ¬ (8 ≤ x6)) => ?_)
        · refine a_iload F 6 dX12_feed_51 rfl ?_
          refine a_bipush (v := 12) F dX12_feed_53 (by decide) ?_
          refine a_icmp_ge (tgt := 62) F dX12_feed_55 (by decide) (fun (c_5 : 12 ≤ x6) => ?_) (fun (c_5 : ¬ (12 ≤ x6)) => ?_)
          · refine a_iload F 6 dX12_feed_62 rfl ?_
            refine a_bipush (v := 16) F dX12_feed_64 (by decide) ?_
            refine a_icmp_ge (tgt := 74) F dX12_feed_66 (by decide) (fun (c_6 : 16 ≤ x6) => ?_) (fun (c_6 : ¬ (16 ≤ x6)) => ?_)
            · refine a_iload F 5 dX12_feed_74 rfl ?_
              exact k _ (by rw [if_pos c_3, if_pos c_4, if_pos c_5, if_pos c_6] <;> rfl)
            · refine a_iload F 4 dX12_feed_69 rfl ?_
              refine a_goto (tgt := 76) F dX12_feed_71 (by decide) ?_
              exact k _ (by rw [if_pos c_3, if_pos c_4, if_pos c_5, if_neg c_6] <;> rfl)
          · refine a_iload_n F 3 dX12_feed_58 rfl rfl ?_
            refine a_goto (tgt := 76) F dX12_feed_59 (by decide) ?_
            exact k _ (by rw [if_pos c_3, if_pos c_4, if_neg c_5] <;> rfl)
        · refine a_iload_n F 2 dX12_feed_47 rfl rfl ?_
          refine a_goto (tgt := 76) F dX12_feed_48 (by decide) ?_
          exact k _ (by rw [if_pos c_3, if_neg c_4] <;> rfl)
      · refine a_iload_n F 1 dX12_feed_36 rfl rfl ?_
        refine a_goto (tgt := 76) F dX12_feed_37 (by decide) ?_
        exact k _ (by rw [if_neg c_3] <;> rfl)
    rintro _ rfl
    refine a_istore F dX12_feed_76 (by decide) rfl ?_
    refine a_aload_n F 1 dX12_feed_78 rfl rfl ?_
    refine a_getr (b := 34) F fl_12_57 rfl (by decide) rfl rfl dX12_feed_79 ?_
    refine a_aload_n F 1 dX12_feed_82 rfl rfl ?_
    refine a_geti F fl_12_167 rfl (by decide) rfl dX12_feed_83 ?_
    refine a_iload F 0 dX12_feed_86 rfl ?_
    refine a_bipush (v := 24) F dX12_feed_88 (by decide) ?_
    refine a_bipush (v := 8) F dX12_feed_90 (by decide) ?_
    refine a_iload F 7 dX12_feed_92 rfl ?_
    refine a_iconst (v := 4) F dX12_feed_94 (by decide) ?_
    refine a_irem F dX12_feed_95 (by decide) ?_
    refine a_imul F dX12_feed_96 ?_
    refine a_isub F dX12_feed_97 ?_
    refine a_ishr F dX12_feed_98 ?_
    refine a_sipush (v := 255) F dX12_feed_99 (by decide) ?_
    refine a_iand F dX12_feed_102 ?_
    refine a_iast F (by decide) rfl (o_2 c_2) dX12_feed_103 ?_
    refine a_aload_n F 1 dX12_feed_104 rfl rfl ?_
    refine a_dup F dX12_feed_105 rfl ?_
    refine a_geti F fl_12_167 rfl (by decide) rfl dX12_feed_106 ?_
    refine a_iconst (v := 1) F dX12_feed_109 (by decide) ?_
    refine a_iadd F dX12_feed_110 ?_
    refine a_puti F fl_12_167 rfl rfl rfl rfl (by decide) rfl dX12_feed_111 ?_
    refine a_iinc (v := x6 + 1) F 7 dX12_feed_114 rfl rfl (by decide) rfl ?_
    refine a_goto (tgt := 23) F dX12_feed_117 (by decide) ?_
    refine a_sub [2, 3, 4, 5, 6, 7, 0] rfl ?_
    exact e_3 c_2

set_option maxRecDepth 10000 in
theorem c_feed (l : Launch) (I A : Nat → Nat → Int32) (J : Nat → Nat → Int64) (a b c d e : Int32) (t : Nat) (ht : t ≤ 400) (hI : I 0 35 = nI t) : Con l 1 yX12_feed cX12_feed 8 (some .int) [.ref 0, .int a, .int b, .int c, .int d, .int e] (mS I A J) plM 0 0 (if t + 20 ≤ 400 then PM (some (.int (nI (t + 20)))) (up2 (up2 I 0 0 0) 0 35 (nI (t + 20))) (up1 A 34 (segF (A 34) t 20 (feedB a b c d e))) J else PM (some (.int (-1))) (up2 I 0 0 0) A J) := by
  refine Con.of (by decide) (Nat.le_of_ble_eq_true rfl) (fun X hX9 hn9 F E => ?_)
  have e20 : I 0 35 + 20 = nI (t + 20) := by rw [hI, lit 20, nI_add]
  refine r_12_feed_0 F E (fun h => ?_) (fun h => ?_)
  · rw [e20, nI_len 400 (by omega) (by omega)] at h
    rw [if_pos h] at E
    have loop : ∀ n i, i + n = 20 → WA X (mS (up2 (up2 I 0 0 0) 0 35 (nI (t + i))) (up1 A 34 (segF (A 34) t i (feedB a b c d e))) J) plM 0 0 23 [(0, .ref 0), (1, .int a), (2, .int b), (3, .int c), (4, .int d), (5, .int e), (6, .int (nI i))] [] := by
      intro n
      induction n with
      | zero =>
        intro i hi
        obtain rfl : i = 20 := by omega
        exact r_12_feed_23 F E (fun _ => ⟨rfl, rfl, rfl⟩) (fun h => absurd (nI_le (a := 20) (b := 20) (by omega) (by omega)) h) (fun h => absurd (nI_le (a := 20) (b := 20) (by omega) (by omega)) h)
      | succ n ih =>
        intro i hi
        refine r_12_feed_23 F E (fun h => absurd h (nI_ge (b := 20) (by omega) (by omega))) (fun _ => ?_) (fun _ => ?_)
        · rw [up2_s]; exact vp_in_nI (by omega) (by omega)
        · rw [up2_s, nI_clamp (by omega), up2_up2, up1_up1, up1_s, nI_1, nI_1]
          have k := ih (i + 1) (by omega)
          rw [← seg_s] at k
          exact k
    have k := loop 20 0 rfl
    rw [seg_0, up1_id, Nat.add_zero, up2_at (show up2 I 0 0 0 0 35 = nI t from hI)] at k
    exact k
  · rw [e20, nI_len 400 (by omega) (by omega)] at h
    rw [if_neg h]; exact ⟨rfl, rfl, rfl⟩
