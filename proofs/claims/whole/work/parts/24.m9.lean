theorem r_12_isByte_0 {X : Ctx} (F : Fx X cX12_isByte RX12 3 1 0 0) {Φ : Option Value → HS → List Nat → Prop} (E : Ex X (some .boolean) 0 0 Φ) {I A : Nat → Nat → Int32} {J : Nat → Nat → Int64} {x1 x2 : Int32}
    (e_1 : ((I 0 36) ≤ (I 0 37)) → Φ (some (.int 0)) (mS I A J) plM)
    (o_2 : (¬ ((I 0 36) ≤ (I 0 37))) → vp_in (I 0 37) 400)
    (e_3 : (¬ ((I 0 36) ≤ (I 0 37))) → ((A 34 (I 0 37).toNatClampNeg) < x1) → Φ (some (.int 0)) (mS I A J) plM)
    (o_4 : (¬ ((I 0 36) ≤ (I 0 37))) → (¬ ((A 34 (I 0 37).toNatClampNeg) < x1)) → vp_in (I 0 37) 400)
    (e_5 : (¬ ((I 0 36) ≤ (I 0 37))) → (¬ ((A 34 (I 0 37).toNatClampNeg) < x1)) → (x2 < (A 34 (I 0 37).toNatClampNeg)) → Φ (some (.int 0)) (mS I A J) plM)
    (e_6 : (¬ ((I 0 36) ≤ (I 0 37))) → (¬ ((A 34 (I 0 37).toNatClampNeg) < x1)) → (¬ (x2 < (A 34 (I 0 37).toNatClampNeg))) → Φ (some (.int 1)) (mS I A J) plM) :
    WA X (mS I A J) plM 0 0 0 [(0, .ref 0), (1, .int x1), (2, .int x2)] [] := by
  refine a_aload_n F 0 dX12_isByte_0 rfl rfl ?_
  refine a_geti F fl_12_287 rfl (by decide) rfl dX12_isByte_1 ?_
  refine a_aload_n F 0 dX12_isByte_4 rfl rfl ?_
  refine a_geti F fl_12_290 rfl (by decide) rfl dX12_isByte_5 ?_
  refine a_icmp_ge (tgt := 41) F dX12_isByte_8 (by decide) (fun (c_1 : (I 0 36) ≤ (I 0 37)) => ?_) (fun (c_1 : ¬ ((I 0 36) ≤ (I 0 37))) => ?_)
  · refine a_iconst (v := 0) F dX12_isByte_41 (by decide) ?_
    exact a_zret F E (by decide) dX12_isByte_42 (Nat.le_refl 0) (Nat.le_refl 0) (e_1 c_1)
  · refine a_aload_n F 0 dX12_isByte_11 rfl rfl ?_
    refine a_getr (b := 34) F fl_12_57 rfl (by decide) rfl rfl dX12_isByte_12 ?_
    refine a_aload_n F 0 dX12_isByte_15 rfl rfl ?_
    refine a_geti F fl_12_287 rfl (by decide) rfl dX12_isByte_16 ?_
    refine a_iald F (by decide) rfl (o_2 c_1) dX12_isByte_19 ?_
    refine a_iload_n F 1 dX12_isByte_20 rfl rfl ?_
    refine a_icmp_lt (tgt := 41) F dX12_isByte_21 (by decide) (fun (c_2 : (A 34 (I 0 37).toNatClampNeg) < x1) => ?_) (fun (c_2 : ¬ ((A 34 (I 0 37).toNatClampNeg) < x1)) => ?_)
    · refine a_iconst (v := 0) F dX12_isByte_41 (by decide) ?_
      exact a_zret F E (by decide) dX12_isByte_42 (Nat.le_refl 0) (Nat.le_refl 0) (e_3 c_1 c_2)
    · refine a_aload_n F 0 dX12_isByte_24 rfl rfl ?_
      refine a_getr (b := 34) F fl_12_57 rfl (by decide) rfl rfl dX12_isByte_25 ?_
      refine a_aload_n F 0 dX12_isByte_28 rfl rfl ?_
      refine a_geti F fl_12_287 rfl (by decide) rfl dX12_isByte_29 ?_
      refine a_iald F (by decide) rfl (o_4 c_1 c_2) dX12_isByte_32 ?_
      refine a_iload_n F 2 dX12_isByte_33 rfl rfl ?_
      refine a_icmp_gt (tgt := 41) F dX12_isByte_34 (by decide) (fun (c_3 : x2 < (A 34 (I 0 37).toNatClampNeg)) => ?_) (fun (c_3 : ¬ (x2 < (A 34 (I 0 37).toNatClampNeg))) => ?_)
      · refine a_iconst (v := 0) F dX12_isByte_41 (by decide) ?_
        exact a_zret F E (by decide) dX12_isByte_42 (Nat.le_refl 0) (Nat.le_refl 0) (e_5 c_1 c_2 c_3)
      · refine a_iconst (v := 1) F dX12_isByte_37 (by decide) ?_
        refine a_goto (tgt := 42) F dX12_isByte_38 (by decide) ?_
        exact a_zret F E (by decide) dX12_isByte_42 (Nat.le_refl 0) (Nat.le_refl 0) (e_6 c_1 c_2 c_3)

set_option maxRecDepth 10000 in
theorem c_isByte (l : Launch) (I A : Nat → Nat → Int32) (J : Nat → Nat → Int64) (a b : Int32) (h : 0 ≤ I 0 37 ∧ I 0 36 ≤ 400) : Con l 1 yX12_isByte cX12_isByte 3 (some .boolean) [.ref 0, .int a, .int b] (mS I A J) plM 0 0 (PM (some (.int (if I 0 37 < I 0 36 ∧ a ≤ A 34 (I 0 37).toNatClampNeg ∧ A 34 (I 0 37).toNatClampNeg ≤ b then 1 else 0))) I A J) := by
  refine Con.of (by decide) (Nat.le_of_ble_eq_true rfl) (fun X hX9 hn9 F E => ?_)
  refine r_12_isByte_0 F E ?_ ?_ ?_ ?_ ?_ ?_ <;> (clear F E hn9 hX9; (try clear X); intros <;> first | exact in_i (N := 400) rfl (by grind) | (rw [if_pos (show I 0 37 < I 0 36 ∧ a ≤ A 34 (I 0 37).toNatClampNeg ∧ A 34 (I 0 37).toNatClampNeg ≤ b by grind)]; exact ⟨rfl, rfl, rfl⟩) | (rw [if_neg (show ¬ (I 0 37 < I 0 36 ∧ a ≤ A 34 (I 0 37).toNatClampNeg ∧ A 34 (I 0 37).toNatClampNeg ≤ b) by grind)]; exact ⟨rfl, rfl, rfl⟩))

theorem r_12_wrong_0 {X : Ctx} (F : Fx X cX12_wrong RX12 3 1 0 0) {Φ : Option Value → HS → List Nat → Prop} (E : Ex X none 0 0 Φ) {I A : Nat → Nat → Int32} {J : Nat → Nat → Int64} {x1 x2 : Int32}
    (e_1 : ((I 0 41) = 0) → Φ none (mS (up2 (up2 I 0 41 x1) 0 42 x2) A J) plM)
    (e_2 : (¬ ((I 0 41) = 0)) → Φ none (mS I A J) plM) :
    WA X (mS I A J) plM 0 0 0 [(0, .ref 0), (1, .int x1), (2, .int x2)] [] := by
  refine a_aload_n F 0 dX12_wrong_0 rfl rfl ?_
  refine a_geti F fl_12_307 rfl (by decide) rfl dX12_wrong_1 ?_
  refine a_if_eq (tgt := 8) F dX12_wrong_4 (by decide) (fun (c_1 : (I 0 41) = 0) => ?_) (fun (c_1 : ¬ ((I 0 41) = 0)) => ?_)
  · refine a_aload_n F 0 dX12_wrong_8 rfl rfl ?_
    refine a_iload_n F 1 dX12_wrong_9 rfl rfl ?_
    refine a_puti F fl_12_307 rfl rfl rfl rfl (by decide) rfl dX12_wrong_10 ?_
    refine a_aload_n F 0 dX12_wrong_13 rfl rfl ?_
    refine a_iload_n F 2 dX12_wrong_14 rfl rfl ?_
    refine a_puti F fl_12_60 rfl rfl rfl rfl (by decide) rfl dX12_wrong_15 ?_
    exact a_vret F E dX12_wrong_18 (Nat.le_refl 0) (Nat.le_refl 0) (e_1 c_1)
  · exact a_vret F E dX12_wrong_7 (Nat.le_refl 0) (Nat.le_refl 0) (e_2 c_1)

set_option maxRecDepth 10000 in
theorem c_wrong (l : Launch) (I A : Nat → Nat → Int32) (J : Nat → Nat → Int64) (f p : Int32) : Con l 1 yX12_wrong cX12_wrong 3 none [.ref 0, .int f, .int p] (mS I A J) plM 0 0 (PM none (if I 0 41 = 0 then up2 (up2 I 0 41 f) 0 42 p else I) A J) := by
  refine Con.of (by decide) (Nat.le_of_ble_eq_true rfl) (fun X hX9 hn9 F E => ?_)
  refine r_12_wrong_0 F E ?_ ?_ <;> (clear F E hn9 hX9; (try clear X); intros <;> simp_all [PM])
