def dieS (x y first k : Nat) : Nat := if x = y then x else if (if k = 0 then first else 1 - first) = 0 then x else y
noncomputable def sbd (m x y first : Nat) (fr : Nat → Nat) (B0 : Nat → Nat) : Nat → Nat → Nat
  | 0 => B0
  | k + 1 => mvB (sbd m x y first fr B0 k) m (fr k) (dieS x y first k)
def sOK (m x y g first : Nat) (mv : MV) (B0 : Nat → Nat) (k : Nat) : Prop := (g = 0 ∨ dieS x y first k = g) ∧ mv.2.1 k ≠ 0 ∧ cmP (sbd m x y first mv.2.1 B0 k) m (mv.2.1 k) (dieS x y first k) ∧ mv.2.2.1 k = mv.2.1 k - dieS x y first k
def allS (m x y g first : Nat) (mv : MV) (B0 : Nat → Nat) : Prop := ∀ k, k < mv.1 → sOK m x y g first mv B0 k
def csQ (I A : Nat → Nat → Int32) (J : Nat → Nat → Int64) (m x y g first : Nat) (mv : MV) (B0 : Nat → Nat) : Option Value → HS → List Nat → Prop := fun r σ' pl' => ∃ A', σ' = mS I A' J ∧ pl' = plM ∧ (∀ q, q ≠ 3 → q ≠ 48 → A' q = A q) ∧ (∀ c, c < 52 → A' 3 c = A 3 c) ∧
  ((allS m x y g first mv B0 ∧ r = some (.int 1) ∧ okB (sbd m x y first mv.2.1 B0 mv.1) ∧ bdR (A' 3) (52 * mv.1) (sbd m x y first mv.2.1 B0 mv.1) ∧ ∀ k, k < mv.1 → (A' 48 k = 0 ∨ A' 48 k = 1) ∧ (A' 48 k = 1 ↔ hitP (sbd m x y first mv.2.1 B0 k) m (mv.2.1 k) (dieS x y first k))) ∨ (¬ allS m x y g first mv B0 ∧ r = some (.int 0)))
theorem dieS_b {x y first k : Nat} (hx : 1 ≤ x ∧ x ≤ 6) (hy : 1 ≤ y ∧ y ≤ 6) : 1 ≤ dieS x y first k ∧ dieS x y first k ≤ 6 := by unfold dieS; repeat (first | assumption | split)

theorem r_12_canSay_0 {X : Ctx} (F : Fx X cX12_canSay RX12 6 2 0 0) {I A : Nat → Nat → Int32} {J : Nat → Nat → Int64} {x1 : Int32}
    (e_1 : WA X (mS I A J) plM 0 0 2 [(0, .ref 0), (1, .int x1), (2, .int 0)] []) :
    WA X (mS I A J) plM 0 0 0 [(0, .ref 0), (1, .int x1)] [] := by
  refine a_iconst (v := 0) F dX12_canSay_0 (by decide) ?_
  refine a_istore_n F dX12_canSay_1 rfl (by decide) rfl ?_
  refine a_sub [1, 2, 0] rfl ?_
  exact e_1

theorem r_12_canSay_2 {X : Ctx} (F : Fx X cX12_canSay RX12 6 2 0 0) {Φ : Option Value → HS → List Nat → Prop} (E : Ex X (some .boolean) 0 0 Φ) {I A : Nat → Nat → Int32} {J : Nat → Nat → Int64} {x1 x2 : Int32}
    (e_1 : ((I 0 47) ≤ x2) → Φ (some (.int 1)) (mS I A J) plM)
    (e_2 : (¬ ((I 0 47) ≤ x2)) → WA X (mS I A J) plM 0 0 54 [(0, .ref 0), (1, .int x1), (2, .int x2), (3, .int (if (I 0 9) = (I 0 10) then 0 else (if x2 = 0 then x1 else (1 - x1)))), (4, .int (if (if (I 0 9) = (I 0 10) then 0 else (if x2 = 0 then x1 else (1 - x1))) = 0 then (I 0 9) else (I 0 10)))] []) :
    WA X (mS I A J) plM 0 0 2 [(0, .ref 0), (1, .int x1), (2, .int x2)] [] := by
  refine a_iload_n F 2 dX12_canSay_2 rfl rfl ?_
  refine a_aload_n F 0 dX12_canSay_3 rfl rfl ?_
  refine a_geti F fl_12_334 rfl (by decide) rfl dX12_canSay_4 ?_
  refine a_icmp_ge (tgt := 143) F dX12_canSay_7 (by decide) (fun (c_1 : (I 0 47) ≤ x2) => ?_) (fun (c_1 : ¬ ((I 0 47) ≤ x2)) => ?_)
  · refine a_iconst (v := 1) F dX12_canSay_143 (by decide) ?_
    exact a_zret F E (by decide) dX12_canSay_144 (Nat.le_refl 0) (Nat.le_refl 0) (e_1 c_1)
  · refine a_aload_n F 0 dX12_canSay_10 rfl rfl ?_
    refine a_geti F fl_12_179 rfl (by decide) rfl dX12_canSay_11 ?_
    refine a_aload_n F 0 dX12_canSay_14 rfl rfl ?_
    refine a_geti F fl_12_182 rfl (by decide) rfl dX12_canSay_15 ?_
    suffices k : ∀ z9 : Int32, z9 = (if (I 0 9) = (I 0 10) then 0 else (if x2 = 0 then x1 else (1 - x1))) → WA X (mS I A J) plM 0 0 36 [(0, .ref 0), (1, .int x1), (2, .int x2)] [.int z9] by
      refine a_icmp_ne (tgt := 25) F dX12_canSay_18 (by decide) (fun (c_2 : ¬ (I 0 9) = (I 0 10)) => ?_) (fun (c_2 : (I 0 9) = (I 0 10)) => ?_)
      · refine a_iload_n F 2 dX12_canSay_25 rfl rfl ?_
        refine a_if_ne (tgt := 33) F dX12_canSay_26 (by decide) (fun (c_3 : ¬ x2 = 0) => ?_) (fun (c_3 : x2 = 0) => ?_)
        · refine a_iconst (v := 1) F dX12_canSay_33 (by decide) ?_
          refine a_iload_n F 1 dX12_canSay_34 rfl rfl ?_
          refine a_isub F dX12_canSay_35 ?_
          exact k _ (by rw [if_neg c_2, if_neg c_3] <;> rfl)
        · refine a_iload_n F 1 dX12_canSay_29 rfl rfl ?_
          refine a_goto (tgt := 36) F dX12_canSay_30 (by decide) ?_
          exact k _ (by rw [if_neg c_2, if_pos c_3] <;> rfl)
      · refine a_iconst (v := 0) F dX12_canSay_21 (by decide) ?_
        refine a_goto (tgt := 36) F dX12_canSay_22 (by decide) ?_
        exact k _ (by rw [if_pos c_2] <;> rfl)
    rintro _ rfl
    refine a_istore_n F dX12_canSay_36 rfl (by decide) rfl ?_
    refine a_iload_n F 0 dX12_canSay_37 rfl rfl ?_
    suffices k : ∀ z9 : Int32, z9 = (if (if (I 0 9) = (I 0 10) then 0 else (if x2 = 0 then x1 else (1 - x1))) = 0 then (I 0 9) else (I 0 10)) → WA X (mS I A J) plM 0 0 52 [(3, .int (if (I 0 9) = (I 0 10) then 0 else (if x2 = 0 then x1 else (1 - x1)))), (0, .ref 0), (1, .int x1), (2, .int x2)] [.int z9] by
      refine a_if_ne (tgt := 48) F dX12_canSay_38 (by decide) (fun (c_4 : ¬ (if (I 0 9) = (I 0 10) then 0 else (if x2 = 0 then x1 else (1 - x1))) = 0) => ?_) (fun (c_4 : (if (I 0 9) = (I 0 10) then 0 else (if x2 = 0 then x1 else (1 - x1))) = 0) => ?_)
      · refine a_aload_n F 1 dX12_canSay_48 rfl rfl ?_
        refine a_geti F fl_12_182 rfl (by decide) rfl dX12_canSay_49 ?_
        exact k _ (by rw [if_neg c_4] <;> rfl)
      · refine a_aload_n F 1 dX12_canSay_41 rfl rfl ?_
        refine a_geti F fl_12_179 rfl (by decide) rfl dX12_canSay_42 ?_
        refine a_goto (tgt := 52) F dX12_canSay_45 (by decide) ?_
        exact k _ (by rw [if_pos c_4] <;> rfl)
    rintro _ rfl
    refine a_istore F dX12_canSay_52 (by decide) rfl ?_
    refine a_sub [2, 3, 4, 1, 0] rfl ?_
    exact e_2 c_1

theorem r_12_canSay_54 {X : Ctx} (F : Fx X cX12_canSay RX12 6 2 0 0) {Φ : Option Value → HS → List Nat → Prop} (E : Ex X (some .boolean) 0 0 Φ) {I A : Nat → Nat → Int32} {J : Nat → Nat → Int64} {x1 x2 x3 x4 : Int32}
    (o_1 : vp_in x2 16)
    (e_2 : ((I 0 12) ≤ 0) → ((A 44 x2.toNatClampNeg) = 0) → Φ (some (.int 0)) (mS I A J) plM)
    (o_3 : ((I 0 12) ≤ 0) → (¬ ((A 44 x2.toNatClampNeg) = 0)) → cmOK (A 3) x2 (I 0 8) (A 44 x2.toNatClampNeg) x4)
    (o_4 : ((I 0 12) ≤ 0) → (¬ ((A 44 x2.toNatClampNeg) = 0)) → (cmI (A 3) x2 (I 0 8) (A 44 x2.toNatClampNeg) x4) → vp_in x2 16)
    (e_5 : ((I 0 12) ≤ 0) → (¬ ((A 44 x2.toNatClampNeg) = 0)) → (cmI (A 3) x2 (I 0 8) (A 44 x2.toNatClampNeg) x4) → ((A 45 x2.toNatClampNeg) = (if (A 44 x2.toNatClampNeg) ≤ x4 then 0 else ((A 44 x2.toNatClampNeg) - x4))) → WA X (mS I A J) plM 0 0 122 [(0, .ref 0), (1, .int x1), (2, .int x2), (3, .int x3), (4, .int x4), (5, .int (A 44 x2.toNatClampNeg))] [])
    (e_6 : ((I 0 12) ≤ 0) → (¬ ((A 44 x2.toNatClampNeg) = 0)) → (cmI (A 3) x2 (I 0 8) (A 44 x2.toNatClampNeg) x4) → (¬ ((A 45 x2.toNatClampNeg) = (if (A 44 x2.toNatClampNeg) ≤ x4 then 0 else ((A 44 x2.toNatClampNeg) - x4)))) → Φ (some (.int 0)) (mS I A J) plM)
    (e_7 : ((I 0 12) ≤ 0) → (¬ ((A 44 x2.toNatClampNeg) = 0)) → (¬ (cmI (A 3) x2 (I 0 8) (A 44 x2.toNatClampNeg) x4)) → Φ (some (.int 0)) (mS I A J) plM)
    (e_8 : (¬ ((I 0 12) ≤ 0)) → (¬ x4 = (I 0 12)) → Φ (some (.int 0)) (mS I A J) plM)
    (e_9 : (¬ ((I 0 12) ≤ 0)) → (x4 = (I 0 12)) → ((A 44 x2.toNatClampNeg) = 0) → Φ (some (.int 0)) (mS I A J) plM)
    (o_10 : (¬ ((I 0 12) ≤ 0)) → (x4 = (I 0 12)) → (¬ ((A 44 x2.toNatClampNeg) = 0)) → cmOK (A 3) x2 (I 0 8) (A 44 x2.toNatClampNeg) x4)
    (o_11 : (¬ ((I 0 12) ≤ 0)) → (x4 = (I 0 12)) → (¬ ((A 44 x2.toNatClampNeg) = 0)) → (cmI (A 3) x2 (I 0 8) (A 44 x2.toNatClampNeg) x4) → vp_in x2 16)
    (e_12 : (¬ ((I 0 12) ≤ 0)) → (x4 = (I 0 12)) → (¬ ((A 44 x2.toNatClampNeg) = 0)) → (cmI (A 3) x2 (I 0 8) (A 44 x2.toNatClampNeg) x4) → ((A 45 x2.toNatClampNeg) = (if (A 44 x2.toNatClampNeg) ≤ x4 then 0 else ((A 44 x2.toNatClampNeg) - x4))) → WA X (mS I A J) plM 0 0 122 [(0, .ref 0), (1, .int x1), (2, .int x2), (3, .int x3), (4, .int x4), (5, .int (A 44 x2.toNatClampNeg))] [])
    (e_13 : (¬ ((I 0 12) ≤ 0)) → (x4 = (I 0 12)) → (¬ ((A 44 x2.toNatClampNeg) = 0)) → (cmI (A 3) x2 (I 0 8) (A 44 x2.toNatClampNeg) x4) → (¬ ((A 45 x2.toNatClampNeg) = (if (A 44 x2.toNatClampNeg) ≤ x4 then 0 else ((A 44 x2.toNatClampNeg) - x4)))) → Φ (some (.int 0)) (mS I A J) plM)
    (e_14 : (¬ ((I 0 12) ≤ 0)) → (x4 = (I 0 12)) → (¬ ((A 44 x2.toNatClampNeg) = 0)) → (¬ (cmI (A 3) x2 (I 0 8) (A 44 x2.toNatClampNeg) x4)) → Φ (some (.int 0)) (mS I A J) plM) :
    WA X (mS I A J) plM 0 0 54 [(0, .ref 0), (1, .int x1), (2, .int x2), (3, .int x3), (4, .int x4)] [] := by
  refine a_aload_n F 0 dX12_canSay_54 rfl rfl ?_
  refine a_getr (b := 44) F fl_12_66 rfl (by decide) rfl rfl dX12_canSay_55 ?_
  refine a_iload_n F 2 dX12_canSay_58 rfl rfl ?_
  refine a_iald F (by decide) rfl (o_1) dX12_canSay_59 ?_
  refine a_istore F dX12_canSay_60 (by decide) rfl ?_
  refine a_aload_n F 1 dX12_canSay_62 rfl rfl ?_
  refine a_geti F fl_12_196 rfl (by decide) rfl dX12_canSay_63 ?_
  refine a_if_le (tgt := 78) F dX12_canSay_66 (by decide) (fun (c_5 : (I 0 12) ≤ 0) => ?_) (fun (c_5 : ¬ ((I 0 12) ≤ 0)) => ?_)
  · refine a_iload F 0 dX12_canSay_78 rfl ?_
    refine a_if_eq (tgt := 120) F dX12_canSay_80 (by decide) (fun (c_6 : (A 44 x2.toNatClampNeg) = 0) => ?_) (fun (c_6 : ¬ ((A 44 x2.toNatClampNeg) = 0)) => ?_)
    · refine a_iconst (v := 0) F dX12_canSay_120 (by decide) ?_
      exact a_zret F E (by decide) dX12_canSay_121 (Nat.le_refl 0) (Nat.le_refl 0) (e_2 c_5 c_6)
    · refine a_aload_n F 1 dX12_canSay_83 rfl rfl ?_
      refine a_iload_n F 3 dX12_canSay_84 rfl rfl ?_
      refine a_iload F 0 dX12_canSay_85 rfl ?_
      refine a_iload F 5 dX12_canSay_87 rfl ?_
      refine a_callV (b := 0) (As := [.int x2, .int (A 44 x2.toNatClampNeg), .int x4]) (st := []) (ci := 12) F (c_canMoveI (xl X) I A J x2 (A 44 x2.toNatClampNeg) x4 (o_3 c_5 c_6)) ml_12_199 im_yX12_canMove se_yX12_canMove (by decide) (by decide) rfl (by decide) rfl rfl dX12_canSay_89 (by decide) (Nat.le_refl 0) (Nat.le_refl 0) (hl_i (hl_r (by decide) (hl_i (hl_i (hl_i (hl_i hl_nil)))))) hs_nil ?_
      rintro _ _ _ ⟨rfl, rfl, rfl⟩ _
      show WA X (mS I A J) plM 0 0 92 [(5, .int (A 44 x2.toNatClampNeg)), (0, .ref 0), (1, .int x1), (2, .int x2), (3, .int x3), (4, .int x4)] [.int (@ite Int32 (cmI (A 3) x2 (I 0 8) (A 44 x2.toNatClampNeg) x4) (Classical.propDecidable _) 1 0)]
      refine a_ite (fun (c_7 : cmI (A 3) x2 (I 0 8) (A 44 x2.toNatClampNeg) x4) => ?_) (fun (c_7 : ¬ (cmI (A 3) x2 (I 0 8) (A 44 x2.toNatClampNeg) x4)) => ?_)
      · refine a_if_eq (tgt := 120) F dX12_canSay_92 (by decide) (fun (c_8 : (1 : Int32) = 0) => ?_) (fun (c_8 : ¬ ((1 : Int32) = 0)) => ?_)
        · exact absurd c_8 (by decide)
        · refine a_aload_n F 1 dX12_canSay_95 rfl rfl ?_
          refine a_getr (b := 45) F fl_12_69 rfl (by decide) rfl rfl dX12_canSay_96 ?_
          refine a_iload_n F 3 dX12_canSay_99 rfl rfl ?_
          refine a_iald F (by decide) rfl (o_4 c_5 c_6 c_7) dX12_canSay_100 ?_
          refine a_iload F 0 dX12_canSay_101 rfl ?_
          refine a_iload F 5 dX12_canSay_103 rfl ?_
          suffices k : ∀ z9 : Int32, z9 = (if (A 44 x2.toNatClampNeg) ≤ x4 then 0 else ((A 44 x2.toNatClampNeg) - x4)) → WA X (mS I A J) plM 0 0 117 [(5, .int (A 44 x2.toNatClampNeg)), (0, .ref 0), (1, .int x1), (2, .int x2), (3, .int x3), (4, .int x4)] [.int z9, .int (A 45 x2.toNatClampNeg)] by
            refine a_icmp_le (tgt := 116) F dX12_canSay_105 (by decide) (fun (c_9 : (A 44 x2.toNatClampNeg) ≤ x4) => ?_) (fun (c_9 : ¬ ((A 44 x2.toNatClampNeg) ≤ x4)) => ?_)
            · refine a_iconst (v := 0) F dX12_canSay_116 (by decide) ?_
              exact k _ (by rw [if_pos c_9] <;> rfl)
            · refine a_iload F 0 dX12_canSay_108 rfl ?_
              refine a_iload F 5 dX12_canSay_110 rfl ?_
              refine a_isub F dX12_canSay_112 ?_
              refine a_goto (tgt := 117) F dX12_canSay_113 (by decide) ?_
              exact k _ (by rw [if_neg c_9] <;> rfl)
          rintro _ rfl
          refine a_icmp_eq (tgt := 122) F dX12_canSay_117 (by decide) (fun (c_10 : (A 45 x2.toNatClampNeg) = (if (A 44 x2.toNatClampNeg) ≤ x4 then 0 else ((A 44 x2.toNatClampNeg) - x4))) => ?_) (fun (c_10 : ¬ ((A 45 x2.toNatClampNeg) = (if (A 44 x2.toNatClampNeg) ≤ x4 then 0 else ((A 44 x2.toNatClampNeg) - x4)))) => ?_)
          · refine a_sub [1, 2, 3, 4, 5, 0] rfl ?_
            exact e_5 c_5 c_6 c_7 c_10
          · refine a_iconst (v := 0) F dX12_canSay_120 (by decide) ?_
            exact a_zret F E (by decide) dX12_canSay_121 (Nat.le_refl 0) (Nat.le_refl 0) (e_6 c_5 c_6 c_7 c_10)
      · refine a_if_eq (tgt := 120) F dX12_canSay_92 (by decide) (fun (c_11 : (0 : Int32) = 0) => ?_) (fun (c_11 : ¬ ((0 : Int32) = 0)) => ?_)
        · refine a_iconst (v := 0) F dX12_canSay_120 (by decide) ?_
          exact a_zret F E (by decide) dX12_canSay_121 (Nat.le_refl 0) (Nat.le_refl 0) (e_7 c_5 c_6 c_7)
        · exact absurd c_11 (by decide)
  · refine a_iload F 5 dX12_canSay_69 rfl ?_
    refine a_aload_n F 1 dX12_canSay_71 rfl rfl ?_
    refine a_geti F fl_12_196 rfl (by decide) rfl dX12_canSay_72 ?_
    refine a_icmp_ne (tgt := 120) F dX12_canSay_75 (by decide) (fun (c_12 : ¬ x4 = (I 0 12)) => ?_) (fun (c_12 : x4 = (I 0 12)) => ?_)
    · refine a_iconst (v := 0) F dX12_canSay_120 (by decide) ?_
      exact a_zret F E (by decide) dX12_canSay_121 (Nat.le_refl 0) (Nat.le_refl 0) (e_8 c_5 c_12)
    · refine a_iload F 0 dX12_canSay_78 rfl ?_
      refine a_if_eq (tgt := 120) F dX12_canSay_80 (by decide) (fun (c_13 : (A 44 x2.toNatClampNeg) = 0) => ?_) (fun (c_13 : ¬ ((A 44 x2.toNatClampNeg) = 0)) => ?_)
      · refine a_iconst (v := 0) F dX12_canSay_120 (by decide) ?_
        exact a_zret F E (by decide) dX12_canSay_121 (Nat.le_refl 0) (Nat.le_refl 0) (e_9 c_5 c_12 c_13)
      · refine a_aload_n F 1 dX12_canSay_83 rfl rfl ?_
        refine a_iload_n F 3 dX12_canSay_84 rfl rfl ?_
        refine a_iload F 0 dX12_canSay_85 rfl ?_
        refine a_iload F 5 dX12_canSay_87 rfl ?_
        refine a_callV (b := 0) (As := [.int x2, .int (A 44 x2.toNatClampNeg), .int x4]) (st := []) (ci := 12) F (c_canMoveI (xl X) I A J x2 (A 44 x2.toNatClampNeg) x4 (o_10 c_5 c_12 c_13)) ml_12_199 im_yX12_canMove se_yX12_canMove (by decide) (by decide) rfl (by decide) rfl rfl dX12_canSay_89 (by decide) (Nat.le_refl 0) (Nat.le_refl 0) (hl_i (hl_r (by decide) (hl_i (hl_i (hl_i (hl_i hl_nil)))))) hs_nil ?_
        rintro _ _ _ ⟨rfl, rfl, rfl⟩ _
        show WA X (mS I A J) plM 0 0 92 [(5, .int (A 44 x2.toNatClampNeg)), (0, .ref 0), (1, .int x1), (2, .int x2), (3, .int x3), (4, .int x4)] [.int (@ite Int32 (cmI (A 3) x2 (I 0 8) (A 44 x2.toNatClampNeg) x4) (Classical.propDecidable _) 1 0)]
        refine a_ite (fun (c_14 : cmI (A 3) x2 (I 0 8) (A 44 x2.toNatClampNeg) x4) => ?_) (fun (c_14 : ¬ (cmI (A 3) x2 (I 0 8) (A 44 x2.toNatClampNeg) x4)) => ?_)
        · refine a_if_eq (tgt := 120) F dX12_canSay_92 (by decide) (fun (c_15 : (1 : Int32) = 0) => ?_) (fun (c_15 : ¬ ((1 : Int32) = 0)) => ?_)
          · exact absurd c_15 (by decide)
          · refine a_aload_n F 1 dX12_canSay_95 rfl rfl ?_
            refine a_getr (b := 45) F fl_12_69 rfl (by decide) rfl rfl dX12_canSay_96 ?_
            refine a_iload_n F 3 dX12_canSay_99 rfl rfl ?_
            refine a_iald F (by decide) rfl (o_11 c_5 c_12 c_13 c_14) dX12_canSay_100 ?_
            refine a_iload F 0 dX12_canSay_101 rfl ?_
            refine a_iload F 5 dX12_canSay_103 rfl ?_
            suffices k : ∀ z9 : Int32, z9 = (if (A 44 x2.toNatClampNeg) ≤ x4 then 0 else ((A 44 x2.toNatClampNeg) - x4)) → WA X (mS I A J) plM 0 0 117 [(5, .int (A 44 x2.toNatClampNeg)), (0, .ref 0), (1, .int x1), (2, .int x2), (3, .int x3), (4, .int x4)] [.int z9, .int (A 45 x2.toNatClampNeg)] by
              refine a_icmp_le (tgt := 116) F dX12_canSay_105 (by decide) (fun (c_16 : (A 44 x2.toNatClampNeg) ≤ x4) => ?_) (fun (c_16 : ¬ ((A 44 x2.toNatClampNeg) ≤ x4)) => ?_)
              · refine a_iconst (v := 0) F dX12_canSay_116 (by decide) ?_
                exact k _ (by rw [if_pos c_16] <;> rfl)
              · refine a_iload F 0 dX12_canSay_108 rfl ?_
                refine a_iload F 5 dX12_canSay_110 rfl ?_
                refine a_isub F dX12_canSay_112 ?_
                refine a_goto (tgt := 117) F dX12_canSay_113 (by decide) ?_
                exact k _ (by rw [if_neg c_16] <;> rfl)
            rintro _ rfl
            refine a_icmp_eq (tgt := 122) F dX12_canSay_117 (by decide) (fun (c_17 : (A 45 x2.toNatClampNeg) = (if (A 44 x2.toNatClampNeg) ≤ x4 then 0 else ((A 44 x2.toNatClampNeg) - x4))) => ?_) (fun (c_17 : ¬ ((A 45 x2.toNatClampNeg) = (if (A 44 x2.toNatClampNeg) ≤ x4 then 0 else ((A 44 x2.toNatClampNeg) - x4)))) => ?_)
            · refine a_sub [1, 2, 3, 4, 5, 0] rfl ?_
              exact e_12 c_5 c_12 c_13 c_14 c_17
            · refine a_iconst (v := 0) F dX12_canSay_120 (by decide) ?_
              exact a_zret F E (by decide) dX12_canSay_121 (Nat.le_refl 0) (Nat.le_refl 0) (e_13 c_5 c_12 c_13 c_14 c_17)
        · refine a_if_eq (tgt := 120) F dX12_canSay_92 (by decide) (fun (c_18 : (0 : Int32) = 0) => ?_) (fun (c_18 : ¬ ((0 : Int32) = 0)) => ?_)
          · refine a_iconst (v := 0) F dX12_canSay_120 (by decide) ?_
            exact a_zret F E (by decide) dX12_canSay_121 (Nat.le_refl 0) (Nat.le_refl 0) (e_14 c_5 c_12 c_13 c_14)
          · exact absurd c_18 (by decide)

theorem r_12_canSay_122 {X : Ctx} (F : Fx X cX12_canSay RX12 6 2 0 0) {I A : Nat → Nat → Int32} {J : Nat → Nat → Int64} {x1 x2 x3 x4 x5 : Int32}
    (e_1 : WA X (mS I A J) plM 0 0 133 [(0, .ref 0), (1, .int x1), (2, .int x2), (3, .int x3), (4, .int x4), (5, .int x5)] [.int x4, .int x5, .int x2, .ref 0, .int x2, .ref 48]) :
    WA X (mS I A J) plM 0 0 122 [(0, .ref 0), (1, .int x1), (2, .int x2), (3, .int x3), (4, .int x4), (5, .int x5)] [] := by
  refine a_aload_n F 0 dX12_canSay_122 rfl rfl ?_
  refine a_getr (b := 48) F fl_12_76 rfl (by decide) rfl rfl dX12_canSay_123 ?_
  refine a_iload_n F 2 dX12_canSay_126 rfl rfl ?_
  refine a_aload_n F 0 dX12_canSay_127 rfl rfl ?_
  refine a_iload_n F 2 dX12_canSay_128 rfl rfl ?_
  refine a_iload F 5 dX12_canSay_129 rfl ?_
  refine a_iload F 4 dX12_canSay_131 rfl ?_
  exact e_1

theorem r_12_canSay_137 {X : Ctx} (F : Fx X cX12_canSay RX12 6 2 0 0) {I A : Nat → Nat → Int32} {J : Nat → Nat → Int64} {x1 x2 x3 x4 x5 : Int32}
    (e_1 : WA X (mS I A J) plM 0 0 2 [(0, .ref 0), (1, .int x1), (2, .int (x2 + 1))] []) :
    WA X (mS I A J) plM 0 0 137 [(0, .ref 0), (1, .int x1), (2, .int x2), (3, .int x3), (4, .int x4), (5, .int x5)] [] := by
  refine a_iinc (v := x2 + 1) F 2 dX12_canSay_137 rfl rfl (by decide) rfl ?_
  refine a_goto (tgt := 2) F dX12_canSay_140 (by decide) ?_
  refine a_sub [1, 2, 0] rfl ?_
  exact e_1

set_option maxRecDepth 10000 in
theorem c_canSay (l : Launch) (I A : Nat → Nat → Int32) (J : Nat → Nat → Int64) (m x y g first : Nat) (mv : MV) (B0 : Nat → Nat) (hf : first ≤ 1) (hm : m ≤ 1) (h8 : I 0 8 = nI m) (h9 : I 0 9 = nI x) (h10 : I 0 10 = nI y) (h12 : I 0 12 = nI g) (h47 : I 0 47 = nI mv.1) (hx : 1 ≤ x ∧ x ≤ 6) (hy : 1 ≤ y ∧ y ≤ 6) (hg : g ≤ 6) (hmv : mvRow A mv) (hok : okB B0) (hB : bdR (A 3) 0 B0) : Con l 2 yX12_canSay cX12_canSay 6 (some .boolean) [.ref 0, .int (nI first)] (mS I A J) plM 0 0 (csQ I A J m x y g first mv B0) := by
  refine Con.of (by decide) (Nat.le_of_ble_eq_true rfl) (fun X hX9 hn9 F E => ?_)
  have h8m := hmv.1
  have no : ∀ (A' : Nat → Nat → Int32) (k : Nat), (∀ q, q ≠ 3 → q ≠ 48 → A' q = A q) → (∀ c, c < 52 → A' 3 c = A 3 c) → k < mv.1 → ¬ sOK m x y g first mv B0 k → csQ I A J m x y g first mv B0 (some (.int 0)) (mS I A' J) plM := fun A' k f1 f2 hk hn => ⟨A', rfl, rfl, f1, f2, Or.inr ⟨fun z => hn (z k hk), rfl⟩⟩
  have loop : ∀ f k (A' : Nat → Nat → Int32), k + f = mv.1 → (∀ q, q ≠ 3 → q ≠ 48 → A' q = A q) → (∀ c, c < 52 → A' 3 c = A 3 c) → okB (sbd m x y first mv.2.1 B0 k) → bdR (A' 3) (52 * k) (sbd m x y first mv.2.1 B0 k) → (∀ j, j < k → sOK m x y g first mv B0 j) → (∀ j, j < k → (A' 48 j = 0 ∨ A' 48 j = 1) ∧ (A' 48 j = 1 ↔ hitP (sbd m x y first mv.2.1 B0 j) m (mv.2.1 j) (dieS x y first j))) → WA X (mS I A' J) plM 0 0 2 [(0, .ref 0), (1, .int (nI first)), (2, .int (nI k))] [] := by
    intro f
    induction f with
    | zero =>
      intro k A' hk f1 f2 ok hb hs hh
      obtain rfl : k = mv.1 := by omega
      have hle : I 0 47 ≤ nI mv.1 := by rw [h47]; exact (nI_leI (by omega) (by omega)).mpr (Nat.le_refl _)
      exact r_12_canSay_2 F E (fun _ => ⟨A', rfl, rfl, f1, f2, Or.inl ⟨hs, rfl, ok, hb, hh⟩⟩) (fun h => absurd hle h)
    | succ f ih =>
      intro k A' hk f1 f2 ok hb hs hh
      have hle : ¬ I 0 47 ≤ nI k := by rw [h47, nI_leI (by omega) (by omega)]; omega
      refine r_12_canSay_2 F E (fun h => absurd h hle) (fun _ => ?_)
      have ed : (if (if I 0 9 = I 0 10 then (0 : Int32) else if nI k = 0 then nI first else 1 - nI first) = 0 then I 0 9 else I 0 10) = nI (dieS x y first k) := by
        have exy : I 0 9 = I 0 10 ↔ x = y := by rw [h9, h10]; exact nI_eq (by omega) (by omega)
        unfold dieS
        by_cases c : x = y
        · rw [if_pos (exy.mpr c), if_pos rfl, if_pos c, h9]
        · rw [if_neg (fun z => c (exy.mp z)), if_neg c]
          have e1 : (if nI k = 0 then nI first else 1 - nI first) = nI (if k = 0 then first else 1 - first) := by
            by_cases c2 : k = 0
            · rw [if_pos c2, if_pos ((nI_z (by omega)).mpr c2)]
            · rw [if_neg c2, if_neg (fun z => c2 ((nI_z (by omega)).mp z))]; exact pk_sub (a := 1) hf
          rw [e1]
          have h2 : (if k = 0 then first else 1 - first) ≤ 1 := by split <;> omega
          generalize (if k = 0 then first else 1 - first) = s at h2
          by_cases c3 : s = 0
          · rw [if_pos c3, if_pos ((nI_z (by omega)).mpr c3), h9]
          · rw [if_neg c3, if_neg (fun z => c3 ((nI_z (by omega)).mp z)), h10]
      rw [ed]
      generalize (if I 0 9 = I 0 10 then (0 : Int32) else if nI k = 0 then nI first else 1 - nI first) = x3
      have hd := dieS_b (first := first) (k := k) hx hy
      obtain ⟨m1, m2, m3, m4, m5⟩ := hmv.2 k (by omega)
      have ck : (nI k).toNatClampNeg = k := nI_clamp (by omega)
      have v16 : vp_in (nI k) 16 := vp_in_nI (by omega) (by omega)
      have r44 : A' 44 (nI k).toNatClampNeg = nI (mv.2.1 k) := by rw [ck, f1 44 (by decide) (by decide)]; exact m1
      have r45 : A' 45 (nI k).toNatClampNeg = nI (mv.2.2.1 k) := by rw [ck, f1 45 (by decide) (by decide)]; exact m3
      have ep : (if nI (mv.2.1 k) ≤ nI (dieS x y first k) then (0 : Int32) else nI (mv.2.1 k) - nI (dieS x y first k)) = nI (mv.2.1 k - dieS x y first k) := by
        by_cases c : mv.2.1 k ≤ dieS x y first k
        · rw [if_pos ((nI_leI (by omega) (by omega)).mpr c), show mv.2.1 k - dieS x y first k = 0 by omega]; rfl
        · rw [if_neg (fun z => c ((nI_leI (by omega) (by omega)).mp z)), pk_sub (by omega)]
      have g0 : I 0 12 ≤ 0 ↔ g = 0 := by rw [h12]; exact nI_le0 (by omega)
      have gd : nI (dieS x y first k) = I 0 12 ↔ dieS x y first k = g := by rw [h12]; exact nI_eq (by omega) (by omega)
      have z44 : nI (mv.2.1 k) = 0 ↔ mv.2.1 k = 0 := nI_z (by omega)
      have e45 : nI (mv.2.2.1 k) = nI (mv.2.1 k - dieS x y first k) ↔ mv.2.2.1 k = mv.2.1 k - dieS x y first k := nI_eq (by omega) (by omega)
      have cm : cmI (A' 3) (nI k) (I 0 8) (nI (mv.2.1 k)) (nI (dieS x y first k)) ↔ cmP (sbd m x y first mv.2.1 B0 k) m (mv.2.1 k) (dieS x y first k) := by
        rw [h8]; exact cmI_n (by omega) hm m2 hd.2 hb
      have co : mv.2.1 k ≠ 0 → cmOK (A' 3) (nI k) (I 0 8) (nI (mv.2.1 k)) (nI (dieS x y first k)) := fun z => ⟨k, m, _, _, _, rfl, h8, rfl, rfl, by omega, hm, by omega, m2, hd.1, hd.2, hb⟩
      have N := no A' k f1 f2 (by omega)
      have go : sOK m x y g first mv B0 k → WA X (mS I A' J) plM 0 0 122 [(0, .ref 0), (1, .int (nI first)), (2, .int (nI k)), (3, .int x3), (4, .int (nI (dieS x y first k))), (5, .int (nI (mv.2.1 k)))] [] := by
        intro s
        refine r_12_canSay_122 F ?_
        refine a_callV (b := 0) (As := [.int (nI k), .int (nI (mv.2.1 k)), .int (nI (dieS x y first k))]) (st := [.int (nI k), .ref 48]) (ci := 12) F (c_move (xl X) I A' J k m (mv.2.1 k) (dieS x y first k) _ (by omega) hm h8 (by have := s.2.1; omega) m2 hd.1 hd.2 ok s.2.2.1 hb) ml_12_203 im_yX12_move se_yX12_move (by decide) (by decide) rfl (by decide) rfl rfl dX12_canSay_133 (Nat.le_of_ble_eq_true rfl) (Nat.le_refl 0) (Nat.le_refl 0) (hl_r (by decide) (hl_i (hl_i (hl_i (hl_i (hl_i hl_nil)))))) (hs_i (hs_r (by decide) hs_nil)) ?_
        rintro rv _ _ ⟨row, rfl, rfl, hf3, hb3, hh1, hh0⟩ _
        have nx : ∀ v : Int32, (v = 0 ∨ v = 1) → (v = 1 ↔ hitP (sbd m x y first mv.2.1 B0 k) m (mv.2.1 k) (dieS x y first k)) → WA X (mS I (up1 (up1 A' 3 row) 48 (upd (up1 A' 3 row 48) (nI k).toNatClampNeg (vp_nar .boolean v))) J) plM 0 0 137 [(0, .ref 0), (1, .int (nI first)), (2, .int (nI k)), (3, .int x3), (4, .int (nI (dieS x y first k))), (5, .int (nI (mv.2.1 k)))] [] := by
          intro v hv hvh
          refine r_12_canSay_137 F ?_
          rw [bz_v hv, ck, nI_1, up1_p (show (48 : Nat) ≠ 3 by decide)]
          have p3 : up1 (up1 A' 3 row) 48 (upd (A' 48) k v) 3 = row := by rw [up1_p (by decide), up1_s]
          have p48 : up1 (up1 A' 3 row) 48 (upd (A' 48) k v) 48 = upd (A' 48) k v := up1_s
          have po : ∀ q, q ≠ 3 → q ≠ 48 → up1 (up1 A' 3 row) 48 (upd (A' 48) k v) q = A q := fun q a b => by rw [up1_p b, up1_p a]; exact f1 q a b
          generalize up1 (up1 A' 3 row) 48 (upd (A' 48) k v) = A2 at p3 p48 po ⊢
          refine ih (k + 1) A2 (by omega) po (fun c hc => by rw [p3, hf3 c (Or.inl (by omega))]; exact f2 c hc) (mvB_ok ok hm (by have := s.2.1; omega) m2 hd.1 s.2.2.1) (by rw [p3]; exact hb3) (fun j hj => ?_) (fun j hj => ?_)
          · rcases Nat.lt_or_ge j k with z | z
            · exact hs j z
            · obtain rfl : j = k := by omega
              exact s
          · rw [p48]
            rcases Nat.lt_or_ge j k with z | z
            · rw [upd_out (by omega)]; exact hh j z
            · obtain rfl : j = k := by omega
              rw [upd_in]; exact ⟨hv, hvh⟩
        by_cases hp : hitP (sbd m x y first mv.2.1 B0 k) m (mv.2.1 k) (dieS x y first k)
        · obtain rfl := hh1 hp
          exact a_zast F (by decide) rfl v16 dX12_canSay_136 (nx 1 (Or.inr rfl) ⟨fun _ => hp, fun _ => rfl⟩)
        · obtain rfl := hh0 hp
          exact a_zast F (by decide) rfl v16 dX12_canSay_136 (nx 0 (Or.inl rfl) ⟨fun z => absurd z (by decide), fun z => absurd z hp⟩)
      refine r_12_canSay_54 F E v16 ?_ ?_ (fun _ _ _ => v16) ?_ ?_ ?_ ?_ ?_ ?_ (fun _ _ _ _ => v16) ?_ ?_ ?_
      all_goals (try rw [r44]); (try rw [r45, ep, e45]); (try rw [z44]); (try rw [cm])
      · exact fun _ c => N (fun z => z.2.1 c)
      · exact fun _ c => co c
      · exact fun c1 c2 c3 c4 => go ⟨Or.inl (g0.mp c1), c2, c3, c4⟩
      · exact fun _ _ _ c => N (fun z => c z.2.2.2)
      · exact fun _ _ c => N (fun z => c z.2.2.1)
      · exact fun c1 c2 => N (fun z => z.1.elim (fun w => c1 (g0.mpr w)) (fun w => c2 (gd.mpr w)))
      · exact fun _ _ c => N (fun z => z.2.1 c)
      · exact fun _ _ c => co c
      · exact fun c0 c1 c2 c3 c4 => go ⟨Or.inr (gd.mp c1), c2, c3, c4⟩
      · exact fun _ _ _ _ c => N (fun z => c z.2.2.2)
      · exact fun _ _ _ c => N (fun z => c z.2.2.1)
  refine r_12_canSay_0 F ?_
  exact loop mv.1 0 A (by omega) (fun _ _ _ => rfl) (fun _ _ => rfl) hok hB (fun j hj => by omega) (fun j hj => by omega)
