/-- a board of 52 places lies in a row from o on -/
def bdR (r : Nat → Int32) (o : Nat) (B : Nat → Nat) : Prop := ∀ k, k < 52 → r (o + k) = nI (B k) ∧ B k ≤ 30
/-- a man may go from p by d -/
def cmP (B : Nat → Nat) (m p d : Nat) : Prop := ¬ B (26 * m + p) = 0 ∧ ¬ (p < 25 ∧ 0 < B (26 * m + 25)) ∧ (if d < p then B (26 * (1 - m) + (25 - (p - d))) ≤ 1 else (∀ k, k < 26 → 7 ≤ k → B (26 * m + k) = 0) ∧ (p = d ∨ ∀ k, k < 7 → p < k → B (26 * m + k) = 0))
theorem nI_z {k : Nat} (h : k < 2 ^ 31) : (nI k = 0) ↔ k = 0 := nI_eqn 0 h (by omega)
theorem nI_le0 {k : Nat} (h : k < 2 ^ 31) : (nI k ≤ 0) ↔ k = 0 := by rw [show (nI k ≤ 0) ↔ k ≤ 0 from nI_leI (b := 0) h (by omega)]; omega

theorem r_12_canMove_0 {X : Ctx} (F : Fx X cX12_canMove RX12 9 1 0 0) {Φ : Option Value → HS → List Nat → Prop} (E : Ex X (some .boolean) 0 0 Φ) {I A : Nat → Nat → Int32} {J : Nat → Nat → Int64} {x1 x2 x3 : Int32}
    (o_1 : vp_in (((52 * x1) + (26 * (I 0 8))) + x2) 468)
    (e_2 : ((A 3 (((52 * x1) + (26 * (I 0 8))) + x2).toNatClampNeg) = 0) → Φ (some (.int 0)) (mS I A J) plM)
    (e_3 : (¬ ((A 3 (((52 * x1) + (26 * (I 0 8))) + x2).toNatClampNeg) = 0)) → (25 ≤ x2) → ((x2 - x3) ≤ 0) → WA X (mS I A J) plM 0 0 100 [(0, .ref 0), (1, .int x1), (2, .int x2), (3, .int x3), (4, .int ((52 * x1) + (26 * (I 0 8)))), (5, .int ((52 * x1) + (26 * (1 - (I 0 8))))), (6, .int (x2 - x3)), (7, .int 7)] [])
    (o_4 : (¬ ((A 3 (((52 * x1) + (26 * (I 0 8))) + x2).toNatClampNeg) = 0)) → (25 ≤ x2) → (¬ ((x2 - x3) ≤ 0)) → vp_in ((((52 * x1) + (26 * (1 - (I 0 8)))) + 25) - (x2 - x3)) 468)
    (e_5 : (¬ ((A 3 (((52 * x1) + (26 * (I 0 8))) + x2).toNatClampNeg) = 0)) → (25 ≤ x2) → (¬ ((x2 - x3) ≤ 0)) → (1 < (A 3 ((((52 * x1) + (26 * (1 - (I 0 8)))) + 25) - (x2 - x3)).toNatClampNeg)) → Φ (some (.int 0)) (mS I A J) plM)
    (e_6 : (¬ ((A 3 (((52 * x1) + (26 * (I 0 8))) + x2).toNatClampNeg) = 0)) → (25 ≤ x2) → (¬ ((x2 - x3) ≤ 0)) → (¬ (1 < (A 3 ((((52 * x1) + (26 * (1 - (I 0 8)))) + 25) - (x2 - x3)).toNatClampNeg))) → Φ (some (.int 1)) (mS I A J) plM)
    (o_7 : (¬ ((A 3 (((52 * x1) + (26 * (I 0 8))) + x2).toNatClampNeg) = 0)) → (¬ (25 ≤ x2)) → vp_in (((52 * x1) + (26 * (I 0 8))) + 25) 468)
    (e_8 : (¬ ((A 3 (((52 * x1) + (26 * (I 0 8))) + x2).toNatClampNeg) = 0)) → (¬ (25 ≤ x2)) → ((A 3 (((52 * x1) + (26 * (I 0 8))) + 25).toNatClampNeg) ≤ 0) → ((x2 - x3) ≤ 0) → WA X (mS I A J) plM 0 0 100 [(0, .ref 0), (1, .int x1), (2, .int x2), (3, .int x3), (4, .int ((52 * x1) + (26 * (I 0 8)))), (5, .int ((52 * x1) + (26 * (1 - (I 0 8))))), (6, .int (x2 - x3)), (7, .int 7)] [])
    (o_9 : (¬ ((A 3 (((52 * x1) + (26 * (I 0 8))) + x2).toNatClampNeg) = 0)) → (¬ (25 ≤ x2)) → ((A 3 (((52 * x1) + (26 * (I 0 8))) + 25).toNatClampNeg) ≤ 0) → (¬ ((x2 - x3) ≤ 0)) → vp_in ((((52 * x1) + (26 * (1 - (I 0 8)))) + 25) - (x2 - x3)) 468)
    (e_10 : (¬ ((A 3 (((52 * x1) + (26 * (I 0 8))) + x2).toNatClampNeg) = 0)) → (¬ (25 ≤ x2)) → ((A 3 (((52 * x1) + (26 * (I 0 8))) + 25).toNatClampNeg) ≤ 0) → (¬ ((x2 - x3) ≤ 0)) → (1 < (A 3 ((((52 * x1) + (26 * (1 - (I 0 8)))) + 25) - (x2 - x3)).toNatClampNeg)) → Φ (some (.int 0)) (mS I A J) plM)
    (e_11 : (¬ ((A 3 (((52 * x1) + (26 * (I 0 8))) + x2).toNatClampNeg) = 0)) → (¬ (25 ≤ x2)) → ((A 3 (((52 * x1) + (26 * (I 0 8))) + 25).toNatClampNeg) ≤ 0) → (¬ ((x2 - x3) ≤ 0)) → (¬ (1 < (A 3 ((((52 * x1) + (26 * (1 - (I 0 8)))) + 25) - (x2 - x3)).toNatClampNeg))) → Φ (some (.int 1)) (mS I A J) plM)
    (e_12 : (¬ ((A 3 (((52 * x1) + (26 * (I 0 8))) + x2).toNatClampNeg) = 0)) → (¬ (25 ≤ x2)) → (¬ ((A 3 (((52 * x1) + (26 * (I 0 8))) + 25).toNatClampNeg) ≤ 0)) → Φ (some (.int 0)) (mS I A J) plM) :
    WA X (mS I A J) plM 0 0 0 [(0, .ref 0), (1, .int x1), (2, .int x2), (3, .int x3)] [] := by
  refine a_bipush (v := 52) F dX12_canMove_0 (by decide) ?_
  refine a_iload_n F 1 dX12_canMove_2 rfl rfl ?_
  refine a_imul F dX12_canMove_3 ?_
  refine a_bipush (v := 26) F dX12_canMove_4 (by decide) ?_
  refine a_aload_n F 0 dX12_canMove_6 rfl rfl ?_
  refine a_geti F fl_12_176 rfl (by decide) rfl dX12_canMove_7 ?_
  refine a_imul F dX12_canMove_10 ?_
  refine a_iadd F dX12_canMove_11 ?_
  refine a_istore F dX12_canMove_12 (by decide) rfl ?_
  refine a_bipush (v := 52) F dX12_canMove_14 (by decide) ?_
  refine a_iload_n F 2 dX12_canMove_16 rfl rfl ?_
  refine a_imul F dX12_canMove_17 ?_
  refine a_bipush (v := 26) F dX12_canMove_18 (by decide) ?_
  refine a_iconst (v := 1) F dX12_canMove_20 (by decide) ?_
  refine a_aload_n F 1 dX12_canMove_21 rfl rfl ?_
  refine a_geti F fl_12_176 rfl (by decide) rfl dX12_canMove_22 ?_
  refine a_isub F dX12_canMove_25 ?_
  refine a_imul F dX12_canMove_26 ?_
  refine a_iadd F dX12_canMove_27 ?_
  refine a_istore F dX12_canMove_28 (by decide) rfl ?_
  refine a_aload_n F 2 dX12_canMove_30 rfl rfl ?_
  refine a_getr (b := 3) F fl_12_17 rfl (by decide) rfl rfl dX12_canMove_31 ?_
  refine a_iload F 1 dX12_canMove_34 rfl ?_
  refine a_iload_n F 4 dX12_canMove_36 rfl rfl ?_
  refine a_iadd F dX12_canMove_37 ?_
  refine a_iald F (by decide) rfl (o_1) dX12_canMove_38 ?_
  refine a_if_eq (tgt := 61) F dX12_canMove_39 (by decide) (fun (c_1 : (A 3 (((52 * x1) + (26 * (I 0 8))) + x2).toNatClampNeg) = 0) => ?_) (fun (c_1 : ¬ ((A 3 (((52 * x1) + (26 * (I 0 8))) + x2).toNatClampNeg) = 0)) => ?_)
  · refine a_iconst (v := 0) F dX12_canMove_61 (by decide) ?_
    exact a_zret F E (by decide) dX12_canMove_62 (Nat.le_refl 0) (Nat.le_refl 0) (e_2 c_1)
  · refine a_iload_n F 4 dX12_canMove_42 rfl rfl ?_
    refine a_bipush (v := 25) F dX12_canMove_43 (by decide) ?_
    refine a_icmp_ge (tgt := 63) F dX12_canMove_45 (by decide) (fun (c_2 : 25 ≤ x2) => ?_) (fun (c_2 : ¬ (25 ≤ x2)) => ?_)
    · refine a_iload_n F 4 dX12_canMove_63 rfl rfl ?_
      refine a_iload_n F 5 dX12_canMove_64 rfl rfl ?_
      refine a_isub F dX12_canMove_65 ?_
      refine a_istore F dX12_canMove_66 (by decide) rfl ?_
      refine a_iload F 0 dX12_canMove_68 rfl ?_
      refine a_if_le (tgt := 96) F dX12_canMove_70 (by decide) (fun (c_3 : (x2 - x3) ≤ 0) => ?_) (fun (c_3 : ¬ ((x2 - x3) ≤ 0)) => ?_)
      · refine a_bipush (v := 7) F dX12_canMove_96 (by decide) ?_
        refine a_istore F dX12_canMove_98 (by decide) rfl ?_
        refine a_sub [4, 5, 6, 7, 3, 2, 1, 0] rfl ?_
        exact e_3 c_1 c_2 c_3
      · refine a_aload_n F 3 dX12_canMove_73 rfl rfl ?_
        refine a_getr (b := 3) F fl_12_17 rfl (by decide) rfl rfl dX12_canMove_74 ?_
        refine a_iload F 1 dX12_canMove_77 rfl ?_
        refine a_bipush (v := 25) F dX12_canMove_79 (by decide) ?_
        refine a_iadd F dX12_canMove_81 ?_
        refine a_iload F 0 dX12_canMove_82 rfl ?_
        refine a_isub F dX12_canMove_84 ?_
        refine a_iald F (by decide) rfl (o_4 c_1 c_2 c_3) dX12_canMove_85 ?_
        refine a_iconst (v := 1) F dX12_canMove_86 (by decide) ?_
        refine a_icmp_gt (tgt := 94) F dX12_canMove_87 (by decide) (fun (c_4 : 1 < (A 3 ((((52 * x1) + (26 * (1 - (I 0 8)))) + 25) - (x2 - x3)).toNatClampNeg)) => ?_) (fun (c_4 : ¬ (1 < (A 3 ((((52 * x1) + (26 * (1 - (I 0 8)))) + 25) - (x2 - x3)).toNatClampNeg))) => ?_)
        · refine a_iconst (v := 0) F dX12_canMove_94 (by decide) ?_
          exact a_zret F E (by decide) dX12_canMove_95 (Nat.le_refl 0) (Nat.le_refl 0) (e_5 c_1 c_2 c_3 c_4)
        · refine a_iconst (v := 1) F dX12_canMove_90 (by decide) ?_
          refine a_goto (tgt := 95) F dX12_canMove_91 (by decide) ?_
          exact a_zret F E (by decide) dX12_canMove_95 (Nat.le_refl 0) (Nat.le_refl 0) (e_6 c_1 c_2 c_3 c_4)
    · refine a_aload_n F 2 dX12_canMove_48 rfl rfl ?_
      refine a_getr (b := 3) F fl_12_17 rfl (by decide) rfl rfl dX12_canMove_49 ?_
      refine a_iload F 1 dX12_canMove_52 rfl ?_
      refine a_bipush (v := 25) F dX12_canMove_54 (by decide) ?_
      refine a_iadd F dX12_canMove_56 ?_
      refine a_iald F (by decide) rfl (o_7 c_1 c_2) dX12_canMove_57 ?_
      refine a_if_le (tgt := 63) F dX12_canMove_58 (by decide) (fun (c_5 : (A 3 (((52 * x1) + (26 * (I 0 8))) + 25).toNatClampNeg) ≤ 0) => ?_) (fun (c_5 : ¬ ((A 3 (((52 * x1) + (26 * (I 0 8))) + 25).toNatClampNeg) ≤ 0)) => ?_)
      · refine a_iload_n F 4 dX12_canMove_63 rfl rfl ?_
        refine a_iload_n F 5 dX12_canMove_64 rfl rfl ?_
        refine a_isub F dX12_canMove_65 ?_
        refine a_istore F dX12_canMove_66 (by decide) rfl ?_
        refine a_iload F 0 dX12_canMove_68 rfl ?_
        refine a_if_le (tgt := 96) F dX12_canMove_70 (by decide) (fun (c_6 : (x2 - x3) ≤ 0) => ?_) (fun (c_6 : ¬ ((x2 - x3) ≤ 0)) => ?_)
        · refine a_bipush (v := 7) F dX12_canMove_96 (by decide) ?_
          refine a_istore F dX12_canMove_98 (by decide) rfl ?_
          refine a_sub [4, 5, 6, 7, 3, 2, 1, 0] rfl ?_
          exact e_8 c_1 c_2 c_5 c_6
        · refine a_aload_n F 3 dX12_canMove_73 rfl rfl ?_
          refine a_getr (b := 3) F fl_12_17 rfl (by decide) rfl rfl dX12_canMove_74 ?_
          refine a_iload F 1 dX12_canMove_77 rfl ?_
          refine a_bipush (v := 25) F dX12_canMove_79 (by decide) ?_
          refine a_iadd F dX12_canMove_81 ?_
          refine a_iload F 0 dX12_canMove_82 rfl ?_
          refine a_isub F dX12_canMove_84 ?_
          refine a_iald F (by decide) rfl (o_9 c_1 c_2 c_5 c_6) dX12_canMove_85 ?_
          refine a_iconst (v := 1) F dX12_canMove_86 (by decide) ?_
          refine a_icmp_gt (tgt := 94) F dX12_canMove_87 (by decide) (fun (c_7 : 1 < (A 3 ((((52 * x1) + (26 * (1 - (I 0 8)))) + 25) - (x2 - x3)).toNatClampNeg)) => ?_) (fun (c_7 : ¬ (1 < (A 3 ((((52 * x1) + (26 * (1 - (I 0 8)))) + 25) - (x2 - x3)).toNatClampNeg))) => ?_)
          · refine a_iconst (v := 0) F dX12_canMove_94 (by decide) ?_
            exact a_zret F E (by decide) dX12_canMove_95 (Nat.le_refl 0) (Nat.le_refl 0) (e_10 c_1 c_2 c_5 c_6 c_7)
          · refine a_iconst (v := 1) F dX12_canMove_90 (by decide) ?_
            refine a_goto (tgt := 95) F dX12_canMove_91 (by decide) ?_
            exact a_zret F E (by decide) dX12_canMove_95 (Nat.le_refl 0) (Nat.le_refl 0) (e_11 c_1 c_2 c_5 c_6 c_7)
      · refine a_iconst (v := 0) F dX12_canMove_61 (by decide) ?_
        exact a_zret F E (by decide) dX12_canMove_62 (Nat.le_refl 0) (Nat.le_refl 0) (e_12 c_1 c_2 c_5)

theorem r_12_canMove_100 {X : Ctx} (F : Fx X cX12_canMove RX12 9 1 0 0) {Φ : Option Value → HS → List Nat → Prop} (E : Ex X (some .boolean) 0 0 Φ) {I A : Nat → Nat → Int32} {J : Nat → Nat → Int64} {x1 x2 x3 x4 x5 x6 x7 : Int32}
    (e_1 : (26 ≤ x7) → WA X (mS I A J) plM 0 0 136 [(0, .ref 0), (1, .int x1), (2, .int x2), (3, .int x3), (4, .int x4), (5, .int x5), (6, .int x6), (7, .int 1), (8, .int (x2 + 1))] [])
    (o_2 : (¬ (26 ≤ x7)) → vp_in (x4 + x7) 468)
    (e_3 : (¬ (26 ≤ x7)) → ((A 3 (x4 + x7).toNatClampNeg) ≤ 0) → WA X (mS I A J) plM 0 0 100 [(0, .ref 0), (1, .int x1), (2, .int x2), (3, .int x3), (4, .int x4), (5, .int x5), (6, .int x6), (7, .int (x7 + 1))] [])
    (e_4 : (¬ (26 ≤ x7)) → (¬ ((A 3 (x4 + x7).toNatClampNeg) ≤ 0)) → Φ (some (.int 0)) (mS I A J) plM) :
    WA X (mS I A J) plM 0 0 100 [(0, .ref 0), (1, .int x1), (2, .int x2), (3, .int x3), (4, .int x4), (5, .int x5), (6, .int x6), (7, .int x7)] [] := by
  refine a_iload F 7 dX12_canMove_100 rfl ?_
  refine a_bipush (v := 26) F dX12_canMove_102 (by decide) ?_
  refine a_icmp_ge (tgt := 128) F dX12_canMove_104 (by decide) (fun (c_8 : 26 ≤ x7) => ?_) (fun (c_8 : ¬ (26 ≤ x7)) => ?_)
  · refine a_iconst (v := 1) F dX12_canMove_128 (by decide) ?_
    refine a_istore F dX12_canMove_129 (by decide) rfl ?_
    refine a_iload_n F 3 dX12_canMove_131 rfl rfl ?_
    refine a_iconst (v := 1) F dX12_canMove_132 (by decide) ?_
    refine a_iadd F dX12_canMove_133 ?_
    refine a_istore F dX12_canMove_134 (by decide) rfl ?_
    refine a_sub [2, 3, 4, 5, 6, 7, 8, 1, 0] rfl ?_
    exact e_1 c_8
  · refine a_aload_n F 0 dX12_canMove_107 rfl rfl ?_
    refine a_getr (b := 3) F fl_12_17 rfl (by decide) rfl rfl dX12_canMove_108 ?_
    refine a_iload F 4 dX12_canMove_111 rfl ?_
    refine a_iload F 7 dX12_canMove_113 rfl ?_
    refine a_iadd F dX12_canMove_115 ?_
    refine a_iald F (by decide) rfl (o_2 c_8) dX12_canMove_116 ?_
    refine a_if_le (tgt := 122) F dX12_canMove_117 (by decide) (fun (c_9 : (A 3 (x4 + x7).toNatClampNeg) ≤ 0) => ?_) (fun (c_9 : ¬ ((A 3 (x4 + x7).toNatClampNeg) ≤ 0)) => ?_)
    · refine a_iinc (v := x7 + 1) F 7 dX12_canMove_122 rfl rfl (by decide) rfl ?_
      refine a_goto (tgt := 100) F dX12_canMove_125 (by decide) ?_
      refine a_sub [1, 2, 3, 4, 5, 6, 7, 0] rfl ?_
      exact e_3 c_8 c_9
    · refine a_iconst (v := 0) F dX12_canMove_120 (by decide) ?_
      exact a_zret F E (by decide) dX12_canMove_121 (Nat.le_refl 0) (Nat.le_refl 0) (e_4 c_8 c_9)

theorem r_12_canMove_136 {X : Ctx} (F : Fx X cX12_canMove RX12 9 1 0 0) {Φ : Option Value → HS → List Nat → Prop} (E : Ex X (some .boolean) 0 0 Φ) {I A : Nat → Nat → Int32} {J : Nat → Nat → Int64} {x1 x2 x3 x4 x5 x6 x7 x8 : Int32}
    (e_1 : (7 ≤ x8) → (x6 = 0) → Φ (some (.int 1)) (mS I A J) plM)
    (e_2 : (7 ≤ x8) → (¬ (x6 = 0)) → (x7 = 0) → Φ (some (.int 0)) (mS I A J) plM)
    (e_3 : (7 ≤ x8) → (¬ (x6 = 0)) → (¬ (x7 = 0)) → Φ (some (.int 1)) (mS I A J) plM)
    (o_4 : (¬ (7 ≤ x8)) → (¬ (x7 = 0)) → vp_in (x4 + x8) 468)
    (e_5 : (¬ (7 ≤ x8)) → WA X (mS I A J) plM 0 0 136 [(0, .ref 0), (1, .int x1), (2, .int x2), (3, .int x3), (4, .int x4), (5, .int x5), (6, .int x6), (7, .int (if x7 = 0 then 0 else (if (A 3 (x4 + x8).toNatClampNeg) = 0 then 1 else 0))), (8, .int (x8 + 1))] []) :
    WA X (mS I A J) plM 0 0 136 [(0, .ref 0), (1, .int x1), (2, .int x2), (3, .int x3), (4, .int x4), (5, .int x5), (6, .int x6), (7, .int x7), (8, .int x8)] [] := by
  refine a_iload F 8 dX12_canMove_136 rfl ?_
  refine a_bipush (v := 7) F dX12_canMove_138 (by decide) ?_
  refine a_icmp_ge (tgt := 174) F dX12_canMove_140 (by decide) (fun (c_10 : 7 ≤ x8) => ?_) (fun (c_10 : ¬ (7 ≤ x8)) => ?_)
  · refine a_iload F 6 dX12_canMove_174 rfl ?_
    refine a_if_eq (tgt := 184) F dX12_canMove_176 (by decide) (fun (c_11 : x6 = 0) => ?_) (fun (c_11 : ¬ (x6 = 0)) => ?_)
    · refine a_iconst (v := 1) F dX12_canMove_184 (by decide) ?_
      refine a_goto (tgt := 189) F dX12_canMove_185 (by decide) ?_
      exact a_zret F E (by decide) dX12_canMove_189 (Nat.le_refl 0) (Nat.le_refl 0) (e_1 c_10 c_11)
    · refine a_iload F 7 dX12_canMove_179 rfl ?_
      refine a_if_eq (tgt := 188) F dX12_canMove_181 (by decide) (fun (c_12 : x7 = 0) => ?_) (fun (c_12 : ¬ (x7 = 0)) => ?_)
      · refine a_iconst (v := 0) F dX12_canMove_188 (by decide) ?_
        exact a_zret F E (by decide) dX12_canMove_189 (Nat.le_refl 0) (Nat.le_refl 0) (e_2 c_10 c_11 c_12)
      · refine a_iconst (v := 1) F dX12_canMove_184 (by decide) ?_
        refine a_goto (tgt := 189) F dX12_canMove_185 (by decide) ?_
        exact a_zret F E (by decide) dX12_canMove_189 (Nat.le_refl 0) (Nat.le_refl 0) (e_3 c_10 c_11 c_12)
  · refine a_iload F 7 dX12_canMove_143 rfl ?_
    suffices k : ∀ z9 : Int32, z9 = (if x7 = 0 then 0 else (if (A 3 (x4 + x8).toNatClampNeg) = 0 then 1 else 0)) → WA X (mS I A J) plM 0 0 166 [(0, .ref 0), (1, .int x1), (2, .int x2), (3, .int x3), (4, .int x4), (5, .int x5), (6, .int x6), (7, .int x7), (8, .int x8)] [.int z9] by
      refine a_if_eq (tgt := 165) F dX12_canMove_145 (by decide) (fun (c_13 : x7 = 0) => ?_) (fun (c_13 : ¬ (x7 = 0)) => ?_)
      · refine a_iconst (v := 0) F dX12_canMove_165 (by decide) ?_
        exact k _ (by rw [if_pos c_13] <;> rfl)
      · refine a_aload_n F 0 dX12_canMove_148 rfl rfl ?_
        refine a_getr (b := 3) F fl_12_17 rfl (by decide) rfl rfl dX12_canMove_149 ?_
        refine a_iload F 4 dX12_canMove_152 rfl ?_
        refine a_iload F 8 dX12_canMove_154 rfl ?_
        refine a_iadd F dX12_canMove_156 ?_
        refine a_iald F (by decide) rfl (o_4 c_10 c_13) dX12_canMove_157 ?_
        refine a_if_ne (tgt := 165) F dX12_canMove_158 (by decide) (fun (c_14 : ¬ (A 3 (x4 + x8).toNatClampNeg) = 0) => ?_) (fun (c_14 : (A 3 (x4 + x8).toNatClampNeg) = 0) => ?_)
        · refine a_iconst (v := 0) F dX12_canMove_165 (by decide) ?_
          exact k _ (by rw [if_neg c_13, if_neg c_14] <;> rfl)
        · refine a_iconst (v := 1) F dX12_canMove_161 (by decide) ?_
          refine a_goto (tgt := 166) F dX12_canMove_162 (by decide) ?_
          exact k _ (by rw [if_neg c_13, if_pos c_14] <;> rfl)
    rintro _ rfl
    refine a_istore F dX12_canMove_166 (by decide) rfl ?_
    refine a_iinc (v := x8 + 1) F 8 dX12_canMove_168 rfl rfl (by decide) rfl ?_
    refine a_goto (tgt := 136) F dX12_canMove_171 (by decide) ?_
    refine a_sub [2, 3, 4, 5, 6, 7, 8, 1, 0] rfl ?_
    exact e_5 c_10

set_option maxRecDepth 10000 in
theorem c_canMove (l : Launch) (I A : Nat → Nat → Int32) (J : Nat → Nat → Int64) (a m p d : Nat) (B : Nat → Nat) (ha : a ≤ 8) (hm : m ≤ 1) (h8 : I 0 8 = nI m) (hp1 : 1 ≤ p) (hp : p ≤ 25) (hd1 : 1 ≤ d) (hd : d ≤ 6) (hB : bdR (A 3) (52 * a) B) : Con l 1 yX12_canMove cX12_canMove 9 (some .boolean) [.ref 0, .int (nI a), .int (nI p), .int (nI d)] (mS I A J) plM 0 0 (fun r σ' pl' => (cmP B m p d → PM (some (.int 1)) I A J r σ' pl') ∧ (¬ cmP B m p d → PM (some (.int 0)) I A J r σ' pl')) := by
  refine Con.of (by decide) (Nat.le_of_ble_eq_true rfl) (fun X hX9 hn9 F E => ?_)
  have rd : ∀ k, k < 52 → (nI (52 * a + k)).toNatClampNeg = 52 * a + k := fun k hk => nI_clamp (by omega)
  have inr : ∀ k, k < 52 → vp_in (nI (52 * a + k)) 468 := fun k hk => vp_in_nI (by omega) (by omega)
  have eo : 52 * nI a + 26 * I 0 8 = nI (52 * a + 26 * m) := by rw [h8, lit 52, lit 26, pk_mul, pk_mul, nI_add]
  have e1m : (1 : Int32) - I 0 8 = nI (1 - m) := by rw [h8]; exact pk_sub (a := 1) hm
  have ek : 52 * nI a + 26 * (1 - I 0 8) = nI (52 * a + 26 * (1 - m)) := by rw [e1m, lit 52, lit 26, pk_mul, pk_mul, nI_add]
  have own : ∀ k, k < 26 → nI (52 * a + 26 * m) + nI k = nI (52 * a + (26 * m + k)) := fun k hk => by rw [nI_add]; congr 1; omega
  have vB : ∀ k, k < 52 → A 3 (52 * a + k) = nI (B k) ∧ B k < 2 ^ 31 := fun k hk => ⟨(hB k hk).1, by have := (hB k hk).2; omega⟩
  have yes : cmP B m p d → (fun r σ' pl' => (cmP B m p d → PM (some (.int 1)) I A J r σ' pl') ∧ (¬ cmP B m p d → PM (some (.int 0)) I A J r σ' pl')) (some (.int 1)) (mS I A J) plM := fun h => ⟨fun _ => ⟨rfl, rfl, rfl⟩, fun h2 => absurd h h2⟩
  have no : ¬ cmP B m p d → (fun r σ' pl' => (cmP B m p d → PM (some (.int 1)) I A J r σ' pl') ∧ (¬ cmP B m p d → PM (some (.int 0)) I A J r σ' pl')) (some (.int 0)) (mS I A J) plM := fun h => ⟨fun h2 => absurd h2 h, fun _ => ⟨rfl, rfl, rfl⟩⟩
  have ep : 52 * nI a + 26 * I 0 8 + nI p = nI (52 * a + (26 * m + p)) := by rw [eo]; exact own p (by omega)
  have e25 : 52 * nI a + 26 * I 0 8 + 25 = nI (52 * a + (26 * m + 25)) := by rw [eo]; exact own 25 (by omega)
  have zle : (nI p - nI d ≤ 0) ↔ ¬ d < p := by
    rcases Nat.lt_or_ge d p with h | h
    · rw [pk_sub (Nat.le_of_lt h), nI_le0 (by omega)]; omega
    · constructor
      · intro _; omega
      · intro _
        rcases Nat.lt_or_ge p d with h2 | h2
        · exact Int32.le_of_lt (pk_sneg (by omega) h2)
        · obtain rfl : p = d := by omega
          rw [pk_sub (Nat.le_refl _), Nat.sub_self]; decide
  have zeq : (nI p - nI d = 0) ↔ ¬ d < p ∧ p = d := by
    rcases Nat.lt_or_ge d p with h | h
    · rw [pk_sub (Nat.le_of_lt h), nI_z (by omega)]; omega
    · rcases Nat.lt_or_ge p d with h2 | h2
      · constructor
        · intro e; have := pk_sneg (a := p) (b := d) (by omega) h2; rw [e] at this; exact absurd this (by decide)
        · intro e; omega
      · obtain rfl : p = d := by omega
        rw [pk_sub (Nat.le_refl _), Nat.sub_self]; exact ⟨fun _ => ⟨by omega, rfl⟩, fun _ => rfl⟩
  -- the second loop: no man between
  have loop2 : ∀ f k (x5 x7 : Int32), k + f = 7 ∨ (7 ≤ k ∧ k ≤ 26 ∧ f = 0) → p < k → ((x7 = 0 ∨ x7 = 1) ∧ (x7 = 1 ↔ ∀ j, j < k → j < 7 → p < j → B (26 * m + j) = 0)) → ¬ d < p → (∀ k, k < 26 → 7 ≤ k → B (26 * m + k) = 0) → ¬ B (26 * m + p) = 0 → ¬ (p < 25 ∧ 0 < B (26 * m + 25)) → WA X (mS I A J) plM 0 0 136 [(0, .ref 0), (1, .int (nI a)), (2, .int (nI p)), (3, .int (nI d)), (4, .int (nI (52 * a + 26 * m))), (5, .int x5), (6, .int (nI p - nI d)), (7, .int x7), (8, .int (nI k))] [] := by
    intro f
    induction f with
    | zero =>
      intro k x5 x7 hk hpk hx hdp hall h0 h25
      have hk7 : 7 ≤ k := by omega
      have hle : (7 : Int32) ≤ nI k → True := fun _ => trivial
      have hcm : cmP B m p d ↔ (p = d ∨ x7 = 1) := by
        unfold cmP; rw [if_neg hdp, hx.2]
        constructor
        · rintro ⟨-, -, -, h | h⟩
          · exact Or.inl h
          · exact Or.inr (fun j _ h2 h3 => h j h2 h3)
        · intro h
          exact ⟨h0, h25, hall, h.imp id (fun h j h2 h3 => h j (by omega) h2 h3)⟩
      rcases Nat.lt_or_ge k (2 ^ 31) with hk31 | hk31
      · have h7 : (7 : Int32) ≤ nI k := (nI_gen 7 hk31 (by omega)).mpr hk7
        refine r_12_canMove_136 F E (fun _ c => yes (hcm.mpr (Or.inl (zeq.mp c).2))) (fun _ c c2 => no (fun z => ?_)) (fun _ c c2 => yes (hcm.mpr (Or.inr (hx.1.resolve_left c2)))) (fun h => absurd h7 h) (fun h => absurd h7 h)
        rcases hcm.mp z with h | h
        · exact c (zeq.mpr ⟨hdp, h⟩)
        · rw [c2] at h; exact absurd h (by decide)
      · exfalso; rcases hk with h | h <;> omega
    | succ f ih =>
      intro k x5 x7 hk hpk hx hdp hall h0 h25
      have hk7 : k < 7 := by omega
      have h7 : ¬ (7 : Int32) ≤ nI k := nI_ge (b := 7) hk7 (by omega)
      refine r_12_canMove_136 F E (fun h => absurd h h7) (fun h => absurd h h7) (fun h => absurd h h7) (fun _ _ => ?_) (fun _ => ?_)
      · rw [own k (by omega)]; exact inr _ (by omega)
      · rw [own k (by omega), rd _ (by omega), (vB (26 * m + k) (by omega)).1, nI_1]
        refine ih (k + 1) x5 _ (by omega) (by omega) ?_ hdp hall h0 h25
        have hz := nI_z (vB (26 * m + k) (by omega)).2
        by_cases c7 : x7 = 0
        · rw [if_pos c7]
          refine ⟨Or.inl rfl, fun h => absurd h (by decide), fun h => ?_⟩
          have := hx.2.mpr (fun j h1 h2 h3 => h j (by omega) h2 h3)
          rw [c7] at this; exact absurd this (by decide)
        · rw [if_neg c7]
          have h1 := hx.2.mp (hx.1.resolve_left c7)
          by_cases c8 : nI (B (26 * m + k)) = 0
          · rw [if_pos c8]
            refine ⟨Or.inr rfl, fun _ j g1 g2 g3 => ?_, fun _ => rfl⟩
            rcases Nat.lt_or_ge j k with h | h
            · exact h1 j h g2 g3
            · obtain rfl : j = k := by omega
              exact hz.mp c8
          · rw [if_neg c8]
            refine ⟨Or.inl rfl, fun h => absurd h (by decide), fun h => ?_⟩
            exact absurd (hz.mpr (h k (by omega) hk7 hpk)) c8
  -- the first loop: all men at home
  have loop1 : ∀ f k (x5 : Int32), k + f = 26 → 7 ≤ k → (∀ j, j < k → 7 ≤ j → B (26 * m + j) = 0) → ¬ d < p → ¬ B (26 * m + p) = 0 → ¬ (p < 25 ∧ 0 < B (26 * m + 25)) → WA X (mS I A J) plM 0 0 100 [(0, .ref 0), (1, .int (nI a)), (2, .int (nI p)), (3, .int (nI d)), (4, .int (nI (52 * a + 26 * m))), (5, .int x5), (6, .int (nI p - nI d)), (7, .int (nI k))] [] := by
    intro f
    induction f with
    | zero =>
      intro k x5 hk hk7 hall hdp h0 h25
      obtain rfl : k = 26 := by omega
      refine r_12_canMove_100 F E (fun _ => ?_) (fun h => absurd (nI_le (a := 26) (b := 26) (by omega) (by omega)) h) (fun h => absurd (nI_le (a := 26) (b := 26) (by omega) (by omega)) h) (fun h => absurd (nI_le (a := 26) (b := 26) (by omega) (by omega)) h)
      rw [nI_1]
      rcases Nat.lt_or_ge (p + 1) 7 with h | h
      · exact loop2 (7 - (p + 1)) (p + 1) x5 1 (by omega) (by omega) ⟨Or.inr rfl, fun _ j g1 g2 g3 => by omega, fun _ => rfl⟩ hdp hall h0 h25
      · exact loop2 0 (p + 1) x5 1 (by omega) (by omega) ⟨Or.inr rfl, fun _ j g1 g2 g3 => by omega, fun _ => rfl⟩ hdp hall h0 h25
    | succ f ih =>
      intro k x5 hk hk7 hall hdp h0 h25
      have h26 : ¬ (26 : Int32) ≤ nI k := nI_ge (b := 26) (by omega) (by omega)
      refine r_12_canMove_100 F E (fun h => absurd h h26) (fun _ => ?_) (fun _ c => ?_) (fun _ c => no (fun z => ?_))
      · rw [own k (by omega)]; exact inr _ (by omega)
      · rw [own k (by omega), rd _ (by omega), (vB (26 * m + k) (by omega)).1, nI_le0 (vB (26 * m + k) (by omega)).2] at c
        rw [nI_1]
        refine ih (k + 1) x5 (by omega) (by omega) (fun j g1 g2 => ?_) hdp h0 h25
        rcases Nat.lt_or_ge j k with h | h
        · exact hall j h g2
        · obtain rfl : j = k := by omega
          exact c
      · rw [own k (by omega), rd _ (by omega), (vB (26 * m + k) (by omega)).1, nI_le0 (vB (26 * m + k) (by omega)).2] at c
        unfold cmP at z; rw [if_neg hdp] at z
        exact c (z.2.2.1 k (by omega) hk7)
  have to1 : d < p → (52 * nI a + 26 * (1 - I 0 8) + 25) - (nI p - nI d) = nI (52 * a + (26 * (1 - m) + (25 - (p - d)))) := by
    intro h
    rw [ek, pk_sub (Nat.le_of_lt h), lit 25, nI_add, pk_sub (by omega)]; congr 1; omega
  have fin1 : ∀ h : d < p, ¬ B (26 * m + p) = 0 → ¬ (p < 25 ∧ 0 < B (26 * m + 25)) → (cmP B m p d ↔ ¬ (1 < A 3 ((52 * nI a + 26 * (1 - I 0 8) + 25) - (nI p - nI d)).toNatClampNeg)) := by
    intro h h0 h25
    rw [to1 h, rd _ (by omega), (vB _ (show 26 * (1 - m) + (25 - (p - d)) < 52 by omega)).1, nI_gtn 1 (vB _ (show 26 * (1 - m) + (25 - (p - d)) < 52 by omega)).2 (by omega)]
    unfold cmP; rw [if_pos h]
    constructor
    · intro z; omega
    · intro z; exact ⟨h0, h25, by omega⟩
  have bp := nI_z (vB (26 * m + p) (by omega)).2
  have b25 := nI_le0 (vB (26 * m + 25) (by omega)).2
  refine r_12_canMove_0 F E ?_ ?_ ?_ ?_ ?_ ?_ ?_ ?_ ?_ ?_ ?_ ?_
  · rw [ep]; exact inr _ (by omega)
  · rw [ep, rd _ (by omega), (vB (26 * m + p) (by omega)).1, bp]; intro c; exact no (fun z => z.1 c)
  · rw [ep, rd _ (by omega), (vB (26 * m + p) (by omega)).1, bp, zle, nI_gen 25 (by omega) (by omega), eo]; intro c c2 c3
    exact loop1 19 7 _ rfl (by omega) (fun j h1 h2 => by omega) c3 c (fun z => by omega)
  · rw [zle]; intro _ _ c3; rw [to1 (Classical.not_not.mp c3)]; exact inr _ (by omega)
  · rw [ep, rd _ (by omega), (vB (26 * m + p) (by omega)).1, bp, zle, nI_gen 25 (by omega) (by omega)]; intro c c2 c3 c4
    exact no (fun z => (fin1 (Classical.not_not.mp c3) c (fun z => by omega)).mp z c4)
  · rw [ep, rd _ (by omega), (vB (26 * m + p) (by omega)).1, bp, zle, nI_gen 25 (by omega) (by omega)]; intro c c2 c3 c4
    exact yes ((fin1 (Classical.not_not.mp c3) c (fun z => by omega)).mpr c4)
  · intro _ _; rw [e25]; exact inr _ (by omega)
  · rw [ep, rd _ (by omega), (vB (26 * m + p) (by omega)).1, bp, e25, rd _ (by omega), (vB (26 * m + 25) (by omega)).1, b25, zle, eo]; intro c c2 c3 c4
    exact loop1 19 7 _ rfl (by omega) (fun j h1 h2 => by omega) c4 c (fun z => by omega)
  · rw [zle]; intro _ _ _ c3; rw [to1 (Classical.not_not.mp c3)]; exact inr _ (by omega)
  · rw [ep, rd _ (by omega), (vB (26 * m + p) (by omega)).1, bp, e25, rd _ (by omega), (vB (26 * m + 25) (by omega)).1, b25, zle]; intro c c2 c3 c4 c5
    exact no (fun z => (fin1 (Classical.not_not.mp c4) c (fun z => by omega)).mp z c5)
  · rw [ep, rd _ (by omega), (vB (26 * m + p) (by omega)).1, bp, e25, rd _ (by omega), (vB (26 * m + 25) (by omega)).1, b25, zle]; intro c c2 c3 c4 c5
    exact yes ((fin1 (Classical.not_not.mp c4) c (fun z => by omega)).mpr c5)
  · rw [ep, rd _ (by omega), (vB (26 * m + p) (by omega)).1, bp, e25, rd _ (by omega), (vB (26 * m + 25) (by omega)).1, b25, nI_gen 25 (by omega) (by omega)]; intro c c2 c3
    exact no (fun z => z.2.1 ⟨by omega, by omega⟩)
