/-- the text of u over 36 to the p -/
def prT (u p len : Nat) (txt : Nat → Nat) : Prop := (u = 0 ∧ len = 1 ∧ txt 0 = 48) ∨ (u ≠ 0 ∧ ∃ n2 n3 a, lessN u 2 (2 * p) n2 ∧ lessN (u / 2 ^ n2) 3 (2 * p) n3 ∧ numD (u / 2 ^ n2 / 3 ^ n3) a ∧ (∀ i, i < a → txt i = dcd (u / 2 ^ n2 / 3 ^ n3) a i) ∧
  ((36 ^ p / 2 ^ n2 / 3 ^ n3 = 1 ∧ len = a) ∨ (36 ^ p / 2 ^ n2 / 3 ^ n3 ≠ 1 ∧ ∃ b, numD (36 ^ p / 2 ^ n2 / 3 ^ n3) b ∧ len = a + 1 + b ∧ txt a = 47 ∧ ∀ i, i < b → txt (a + 1 + i) = dcd (36 ^ p / 2 ^ n2 / 3 ^ n3) b i)))
def txF (u a l b : Nat) : Nat → Nat := fun i => if i < a then dcd u a i else if i = a then 47 else dcd l b (i - (a + 1))
theorem tx_1 {u a l b i : Nat} (h : i < a) : txF u a l b i = dcd u a i := if_pos h
theorem tx_2 {u a l b : Nat} : txF u a l b a = 47 := by unfold txF; rw [if_neg (by omega), if_pos rfl]
theorem tx_3 {u a l b i : Nat} : txF u a l b (a + 1 + i) = dcd l b i := by unfold txF; rw [if_neg (by omega), if_neg (by omega), show a + 1 + i - (a + 1) = i by omega]
def poQ (I A : Nat → Nat → Int32) (J : Nat → Nat → Int64) (u p : Nat) : Option Value → HS → List Nat → Prop := fun r σ' pl' => ∃ I' A' len txt, r = some (.int (nI len)) ∧ σ' = mS I' A' J ∧ pl' = plM ∧ (∀ k, k ≠ 61 → I' 0 k = I 0 k) ∧ I' 0 61 = nI len ∧ len ≤ 400 ∧ prT u p len txt ∧ (∀ i, i < len → A' 59 i = nI (txt i)) ∧ ∀ q, q ≠ 59 → q ≠ 60 → q ≠ 62 → q ≠ 63 → q ≠ 64 → A' q = A q
theorem val_one {r : Nat → Int32} (h : digV r 12) : valR r 12 = 1 ↔ (r 0 = 1 ∧ ∀ k, 1 ≤ k → k < 12 → r k = 0) := by
  constructor
  · intro e
    refine ⟨by rw [val_dg 12 h 0 (by omega), e]; rfl, fun k h1 h2 => ?_⟩
    rw [val_dg 12 h k h2, e, Nat.div_eq_of_lt (Nat.lt_of_lt_of_le (show 1 < 2 ^ 28 by decide) (Nat.pow_le_pow_right (by decide) (by omega)))]; rfl
  · rintro ⟨e0, ek⟩
    have : ∀ n, 1 ≤ n → n ≤ 12 → valR r n = 1 := by
      intro n
      induction n with
      | zero => intro h; omega
      | succ n ih =>
        intro _ h2
        simp only [valR]
        rcases Nat.eq_zero_or_pos n with z | z
        · subst z; rw [e0]; rfl
        · rw [ih z (by omega), ek n z (by omega), show (0 : Int32).toNatClampNeg = 0 from rfl, Nat.zero_mul]
    exact this 12 (by omega) (by omega)

theorem r_12_printOver_0 {X : Ctx} (F : Fx X cX12_printOver RX12 4 3 0 0) {I A : Nat → Nat → Int32} {J : Nat → Nat → Int64} {x1 : Int32}
    (e_1 : WA X (mS (up2 I 0 61 0) A J) plM 0 0 7 [(0, .ref 0), (1, .int x1), (2, .int 0)] []) :
    WA X (mS I A J) plM 0 0 0 [(0, .ref 0), (1, .int x1)] [] := by
  refine a_aload_n F 0 dX12_printOver_0 rfl rfl ?_
  refine a_iconst (v := 0) F dX12_printOver_1 (by decide) ?_
  refine a_puti F fl_12_170 rfl rfl rfl rfl (by decide) rfl dX12_printOver_2 ?_
  refine a_iconst (v := 0) F dX12_printOver_5 (by decide) ?_
  refine a_istore_n F dX12_printOver_6 rfl (by decide) rfl ?_
  refine a_sub [1, 2, 0] rfl ?_
  exact e_1

theorem r_12_printOver_7 {X : Ctx} (F : Fx X cX12_printOver RX12 4 3 0 0) {I A : Nat → Nat → Int32} {J : Nat → Nat → Int64} {x1 x2 : Int32}
    (e_1 : (12 ≤ x2) → WA X (mS I A J) plM 0 0 36 [(0, .ref 0), (1, .int x1), (2, .int 0)] [])
    (o_2 : (¬ (12 ≤ x2)) → vp_in x2 12)
    (e_3 : (¬ (12 ≤ x2)) → WA X (mS I (up1 A 63 (upd (A 63) x2.toNatClampNeg (if x2 = 0 then 1 else 0))) J) plM 0 0 7 [(0, .ref 0), (1, .int x1), (2, .int (x2 + 1))] []) :
    WA X (mS I A J) plM 0 0 7 [(0, .ref 0), (1, .int x1), (2, .int x2)] [] := by
  refine a_iload_n F 2 dX12_printOver_7 rfl rfl ?_
  refine a_bipush (v := 12) F dX12_printOver_8 (by decide) ?_
  refine a_icmp_ge (tgt := 34) F dX12_printOver_10 (by decide) (fun (c_1 : 12 ≤ x2) => ?_) (fun (c_1 : ¬ (12 ≤ x2)) => ?_)
  · refine a_iconst (v := 0) F dX12_printOver_34 (by decide) ?_
    refine a_istore_n F dX12_printOver_35 rfl (by decide) rfl ?_
    refine a_sub [1, 2, 0] rfl ?_
    exact e_1 c_1
  · refine a_aload_n F 0 dX12_printOver_13 rfl rfl ?_
    refine a_getr (b := 63) F fl_12_112 rfl (by decide) rfl rfl dX12_printOver_14 ?_
    refine a_iload_n F 2 dX12_printOver_17 rfl rfl ?_
    refine a_iload_n F 2 dX12_printOver_18 rfl rfl ?_
    suffices k : ∀ z9 : Int32, z9 = (if x2 = 0 then 1 else 0) → WA X (mS I A J) plM 0 0 27 [(0, .ref 0), (1, .int x1), (2, .int x2)] [.int z9, .int x2, .ref 63] by
      refine a_if_ne (tgt := 26) F dX12_printOver_19 (by decide) (fun (c_2 : ¬ x2 = 0) => ?_) (fun (c_2 : x2 = 0) => ?_)
      · refine a_iconst (v := 0) F dX12_printOver_26 (by decide) ?_
        exact k _ (by rw [if_neg c_2] <;> rfl)
      · refine a_iconst (v := 1) F dX12_printOver_22 (by decide) ?_
        refine a_goto (tgt := 27) F dX12_printOver_23 (by decide) ?_
        exact k _ (by rw [if_pos c_2] <;> rfl)
    rintro _ rfl
    refine a_iast F (by decide) rfl (o_2 c_1) dX12_printOver_27 ?_
    refine a_iinc (v := x2 + 1) F 2 dX12_printOver_28 rfl rfl (by decide) rfl ?_
    refine a_goto (tgt := 7) F dX12_printOver_31 (by decide) ?_
    refine a_sub [1, 2, 0] rfl ?_
    exact e_3 c_1

theorem r_12_printOver_36 {X : Ctx} (F : Fx X cX12_printOver RX12 4 3 0 0) {I A : Nat → Nat → Int32} {J : Nat → Nat → Int64} {x1 x2 : Int32}
    (e_1 : (x1 ≤ x2) → WA X (mS I A J) plM 0 0 56 [(0, .ref 0), (1, .int x1), (2, .int x2)] [])
    (o_2 : (¬ (x1 ≤ x2)) → digV (A 63) 12)
    (o_3 : (¬ (x1 ≤ x2)) → 1 ≤ (36 : Int32) ∧ (36 : Int32) ≤ 64)
    (e_4 : (¬ (x1 ≤ x2)) → WA X (mS I (up1 A 63 (putR (A 63) 12 (valR (A 63) 12 * (36 : Int32).toNatClampNeg))) J) plM 0 0 36 [(0, .ref 0), (1, .int x1), (2, .int (x2 + 1))] []) :
    WA X (mS I A J) plM 0 0 36 [(0, .ref 0), (1, .int x1), (2, .int x2)] [] := by
  refine a_iload_n F 2 dX12_printOver_36 rfl rfl ?_
  refine a_iload_n F 1 dX12_printOver_37 rfl rfl ?_
  refine a_icmp_ge (tgt := 56) F dX12_printOver_38 (by decide) (fun (c_3 : x1 ≤ x2) => ?_) (fun (c_3 : ¬ (x1 ≤ x2)) => ?_)
  · exact e_1 c_3
  · refine a_aload_n F 0 dX12_printOver_41 rfl rfl ?_
    refine a_getr (b := 63) F fl_12_112 rfl (by decide) rfl rfl dX12_printOver_42 ?_
    refine a_bipush (v := 36) F dX12_printOver_45 (by decide) ?_
    refine a_callS (As := [.ref 63, .int 36]) (st := []) F (c_timesI (xl X) I A J 63 (36 : Int32) (by decide) rfl (by decide) (o_2 c_3) (o_3 c_3)) ml_12_353 sm_yX12_times (by decide) rfl dX12_printOver_47 (by decide) (Nat.le_refl 0) (Nat.le_refl 0) (hl_r (by decide) (hl_i (hl_i hl_nil))) hs_nil ?_
    rintro _ _ _ ⟨rfl, rfl, rfl⟩ _
    show WA X (mS I (up1 A 63 (putR (A 63) 12 (valR (A 63) 12 * (36 : Int32).toNatClampNeg))) J) plM 0 0 50 [(0, .ref 0), (1, .int x1), (2, .int x2)] []
    refine a_iinc (v := x2 + 1) F 2 dX12_printOver_50 rfl rfl (by decide) rfl ?_
    refine a_goto (tgt := 36) F dX12_printOver_53 (by decide) ?_
    refine a_sub [1, 2, 0] rfl ?_
    exact e_4 c_3

theorem r_12_printOver_56 {X : Ctx} (F : Fx X cX12_printOver RX12 4 3 0 0) {Φ : Option Value → HS → List Nat → Prop} (E : Ex X (some .int) 0 0 Φ) {I A : Nat → Nat → Int32} {J : Nat → Nat → Int64} {x1 x2 : Int32}
    (o_1 : digV (A 62) 12)
    (o_2 : (valR (A 62) 12 = 0) → vp_in 0 400)
    (e_3 : (valR (A 62) 12 = 0) → Φ (some (.int 1)) (mS (up2 I 0 61 1) (up1 A 59 (upd (A 59) 0 48)) J) plM)
    (e_4 : (¬ (valR (A 62) 12 = 0)) → WA X (mS I A J) plM 0 0 81 [(0, .ref 0), (1, .int x1), (2, .int x2)] []) :
    WA X (mS I A J) plM 0 0 56 [(0, .ref 0), (1, .int x1), (2, .int x2)] [] := by
  refine a_aload_n F 0 dX12_printOver_56 rfl rfl ?_
  refine a_getr (b := 62) F fl_12_109 rfl (by decide) rfl rfl dX12_printOver_57 ?_
  refine a_callS (As := [.ref 62]) (st := []) F (c_isZero (xl X) I A J 62 (by decide) rfl (by decide) (o_1)) ml_12_401 sm_yX12_isZero (by decide) rfl dX12_printOver_60 (by decide) (Nat.le_refl 0) (Nat.le_refl 0) (hl_r (by decide) (hl_i (hl_i hl_nil))) hs_nil ?_
  rintro _ _ _ ⟨rfl, rfl, rfl⟩ _
  show WA X (mS I A J) plM 0 0 63 [(0, .ref 0), (1, .int x1), (2, .int x2)] [.int (if valR (A 62) 12 = 0 then 1 else 0)]
  refine a_ite (fun (c_4 : valR (A 62) 12 = 0) => ?_) (fun (c_4 : ¬ (valR (A 62) 12 = 0)) => ?_)
  · refine a_if_eq (tgt := 81) F dX12_printOver_63 (by decide) (fun (c_5 : (1 : Int32) = 0) => ?_) (fun (c_5 : ¬ ((1 : Int32) = 0)) => ?_)
    · exact absurd c_5 (by decide)
    · refine a_aload_n F 0 dX12_printOver_66 rfl rfl ?_
      refine a_getr (b := 59) F fl_12_103 rfl (by decide) rfl rfl dX12_printOver_67 ?_
      refine a_iconst (v := 0) F dX12_printOver_70 (by decide) ?_
      refine a_bipush (v := 48) F dX12_printOver_71 (by decide) ?_
      refine a_iast F (by decide) rfl (o_2 c_4) dX12_printOver_73 ?_
      refine a_aload_n F 0 dX12_printOver_74 rfl rfl ?_
      refine a_iconst (v := 1) F dX12_printOver_75 (by decide) ?_
      refine a_puti F fl_12_170 rfl rfl rfl rfl (by decide) rfl dX12_printOver_76 ?_
      refine a_iconst (v := 1) F dX12_printOver_79 (by decide) ?_
      exact a_iret F E dX12_printOver_80 (Nat.le_refl 0) (Nat.le_refl 0) (e_3 c_4)
  · refine a_if_eq (tgt := 81) F dX12_printOver_63 (by decide) (fun (c_6 : (0 : Int32) = 0) => ?_) (fun (c_6 : ¬ ((0 : Int32) = 0)) => ?_)
    · exact e_4 c_4
    · exact absurd c_6 (by decide)

theorem r_12_printOver_81 {X : Ctx} (F : Fx X cX12_printOver RX12 4 3 0 0) {I A : Nat → Nat → Int32} {J : Nat → Nat → Int64} {x1 x2 : Int32}
    (e_1 : WA X (mS I A J) plM 0 0 86 [(0, .ref 0), (1, .int x1), (2, .int x2)] [.int (2 * x1), .int 2, .ref 0]) :
    WA X (mS I A J) plM 0 0 81 [(0, .ref 0), (1, .int x1), (2, .int x2)] [] := by
  refine a_aload_n F 0 dX12_printOver_81 rfl rfl ?_
  refine a_iconst (v := 2) F dX12_printOver_82 (by decide) ?_
  refine a_iconst (v := 2) F dX12_printOver_83 (by decide) ?_
  refine a_iload_n F 1 dX12_printOver_84 rfl rfl ?_
  refine a_imul F dX12_printOver_85 ?_
  exact e_1

theorem r_12_printOver_89 {X : Ctx} (F : Fx X cX12_printOver RX12 4 3 0 0) {I A : Nat → Nat → Int32} {J : Nat → Nat → Int64} {x1 x2 : Int32}
    (e_1 : WA X (mS I A J) plM 0 0 94 [(0, .ref 0), (1, .int x1), (2, .int x2)] [.int (2 * x1), .int 3, .ref 0]) :
    WA X (mS I A J) plM 0 0 89 [(0, .ref 0), (1, .int x1), (2, .int x2)] [] := by
  refine a_aload_n F 0 dX12_printOver_89 rfl rfl ?_
  refine a_iconst (v := 3) F dX12_printOver_90 (by decide) ?_
  refine a_iconst (v := 2) F dX12_printOver_91 (by decide) ?_
  refine a_iload_n F 1 dX12_printOver_92 rfl rfl ?_
  refine a_imul F dX12_printOver_93 ?_
  exact e_1

theorem r_12_printOver_97 {X : Ctx} (F : Fx X cX12_printOver RX12 4 3 0 0) {I A : Nat → Nat → Int32} {J : Nat → Nat → Int64} {x1 x2 : Int32}
    (e_1 : WA X (mS I A J) plM 0 0 102 [(0, .ref 0), (1, .int x1), (2, .int x2)] [.ref 62, .ref 0]) :
    WA X (mS I A J) plM 0 0 97 [(0, .ref 0), (1, .int x1), (2, .int x2)] [] := by
  refine a_aload_n F 0 dX12_printOver_97 rfl rfl ?_
  refine a_aload_n F 0 dX12_printOver_98 rfl rfl ?_
  refine a_getr (b := 62) F fl_12_109 rfl (by decide) rfl rfl dX12_printOver_99 ?_
  exact e_1

theorem r_12_printOver_105 {X : Ctx} (F : Fx X cX12_printOver RX12 4 3 0 0) {I A : Nat → Nat → Int32} {J : Nat → Nat → Int64} {x1 x2 : Int32}
    (o_1 : vp_in 0 12)
    (e_2 : WA X (mS I A J) plM 0 0 123 [(0, .ref 0), (1, .int x1), (2, .int (if (A 63 0) = 1 then 1 else 0)), (3, .int 1)] []) :
    WA X (mS I A J) plM 0 0 105 [(0, .ref 0), (1, .int x1), (2, .int x2)] [] := by
  refine a_aload_n F 0 dX12_printOver_105 rfl rfl ?_
  refine a_getr (b := 63) F fl_12_112 rfl (by decide) rfl rfl dX12_printOver_106 ?_
  refine a_iconst (v := 0) F dX12_printOver_109 (by decide) ?_
  refine a_iald F (by decide) rfl (o_1) dX12_printOver_110 ?_
  refine a_iconst (v := 1) F dX12_printOver_111 (by decide) ?_
  suffices k : ∀ z9 : Int32, z9 = (if (A 63 0) = 1 then 1 else 0) → WA X (mS I A J) plM 0 0 120 [(0, .ref 0), (1, .int x1), (2, .int x2)] [.int z9] by
    refine a_icmp_ne (tgt := 119) F dX12_printOver_112 (by decide) (fun (c_7 : ¬ (A 63 0) = 1) => ?_) (fun (c_7 : (A 63 0) = 1) => ?_)
    · refine a_iconst (v := 0) F dX12_printOver_119 (by decide) ?_
      exact k _ (by rw [if_neg c_7] <;> rfl)
    · refine a_iconst (v := 1) F dX12_printOver_115 (by decide) ?_
      refine a_goto (tgt := 120) F dX12_printOver_116 (by decide) ?_
      exact k _ (by rw [if_pos c_7] <;> rfl)
  rintro _ rfl
  refine a_istore_n F dX12_printOver_120 rfl (by decide) rfl ?_
  refine a_iconst (v := 1) F dX12_printOver_121 (by decide) ?_
  refine a_istore_n F dX12_printOver_122 rfl (by decide) rfl ?_
  refine a_sub [2, 3, 1, 0] rfl ?_
  exact e_2

theorem r_12_printOver_123 {X : Ctx} (F : Fx X cX12_printOver RX12 4 3 0 0) {I A : Nat → Nat → Int32} {J : Nat → Nat → Int64} {x1 x2 x3 : Int32}
    (e_1 : (12 ≤ x3) → WA X (mS I A J) plM 0 0 154 [(0, .ref 0), (1, .int x1), (2, .int x2), (3, .int x3)] [])
    (o_2 : (¬ (12 ≤ x3)) → (¬ (x2 = 0)) → vp_in x3 12)
    (e_3 : (¬ (12 ≤ x3)) → WA X (mS I A J) plM 0 0 123 [(0, .ref 0), (1, .int x1), (2, .int (if x2 = 0 then 0 else (if (A 63 x3.toNatClampNeg) = 0 then 1 else 0))), (3, .int (x3 + 1))] []) :
    WA X (mS I A J) plM 0 0 123 [(0, .ref 0), (1, .int x1), (2, .int x2), (3, .int x3)] [] := by
  refine a_iload_n F 3 dX12_printOver_123 rfl rfl ?_
  refine a_bipush (v := 12) F dX12_printOver_124 (by decide) ?_
  refine a_icmp_ge (tgt := 154) F dX12_printOver_126 (by decide) (fun (c_8 : 12 ≤ x3) => ?_) (fun (c_8 : ¬ (12 ≤ x3)) => ?_)
  · exact e_1 c_8
  · refine a_iload_n F 2 dX12_printOver_129 rfl rfl ?_
    suffices k : ∀ z9 : Int32, z9 = (if x2 = 0 then 0 else (if (A 63 x3.toNatClampNeg) = 0 then 1 else 0)) → WA X (mS I A J) plM 0 0 147 [(0, .ref 0), (1, .int x1), (2, .int x2), (3, .int x3)] [.int z9] by
      refine a_if_eq (tgt := 146) F dX12_printOver_130 (by decide) (fun (c_9 : x2 = 0) => ?_) (fun (c_9 : ¬ (x2 = 0)) => ?_)
      · refine a_iconst (v := 0) F dX12_printOver_146 (by decide) ?_
        exact k _ (by rw [if_pos c_9] <;> rfl)
      · refine a_aload_n F 0 dX12_printOver_133 rfl rfl ?_
        refine a_getr (b := 63) F fl_12_112 rfl (by decide) rfl rfl dX12_printOver_134 ?_
        refine a_iload_n F 3 dX12_printOver_137 rfl rfl ?_
        refine a_iald F (by decide) rfl (o_2 c_8 c_9) dX12_printOver_138 ?_
        refine a_if_ne (tgt := 146) F dX12_printOver_139 (by decide) (fun (c_10 : ¬ (A 63 x3.toNatClampNeg) = 0) => ?_) (fun (c_10 : (A 63 x3.toNatClampNeg) = 0) => ?_)
        · refine a_iconst (v := 0) F dX12_printOver_146 (by decide) ?_
          exact k _ (by rw [if_neg c_9, if_neg c_10] <;> rfl)
        · refine a_iconst (v := 1) F dX12_printOver_142 (by decide) ?_
          refine a_goto (tgt := 147) F dX12_printOver_143 (by decide) ?_
          exact k _ (by rw [if_neg c_9, if_pos c_10] <;> rfl)
    rintro _ rfl
    refine a_istore_n F dX12_printOver_147 rfl (by decide) rfl ?_
    refine a_iinc (v := x3 + 1) F 3 dX12_printOver_148 rfl rfl (by decide) rfl ?_
    refine a_goto (tgt := 123) F dX12_printOver_151 (by decide) ?_
    refine a_sub [2, 3, 1, 0] rfl ?_
    exact e_3 c_8

theorem r_12_printOver_154 {X : Ctx} (F : Fx X cX12_printOver RX12 4 3 0 0) {I A : Nat → Nat → Int32} {J : Nat → Nat → Int64} {x1 x2 x3 : Int32}
    (e_1 : (¬ x2 = 0) → WA X (mS I A J) plM 0 0 187 [(0, .ref 0), (1, .int x1), (2, .int x2), (3, .int x3)] [])
    (o_2 : (x2 = 0) → vp_in (I 0 61) 400)
    (e_3 : (x2 = 0) → WA X (mS (up2 I 0 61 ((I 0 61) + 1)) (up1 A 59 (upd (A 59) (I 0 61).toNatClampNeg 47)) J) plM 0 0 184 [(0, .ref 0), (1, .int x1), (2, .int x2), (3, .int x3)] [.ref 63, .ref 0]) :
    WA X (mS I A J) plM 0 0 154 [(0, .ref 0), (1, .int x1), (2, .int x2), (3, .int x3)] [] := by
  refine a_iload_n F 2 dX12_printOver_154 rfl rfl ?_
  refine a_if_ne (tgt := 187) F dX12_printOver_155 (by decide) (fun (c_11 : ¬ x2 = 0) => ?_) (fun (c_11 : x2 = 0) => ?_)
  · exact e_1 c_11
  · refine a_aload_n F 0 dX12_printOver_158 rfl rfl ?_
    refine a_getr (b := 59) F fl_12_103 rfl (by decide) rfl rfl dX12_printOver_159 ?_
    refine a_aload_n F 0 dX12_printOver_162 rfl rfl ?_
    refine a_geti F fl_12_170 rfl (by decide) rfl dX12_printOver_163 ?_
    refine a_bipush (v := 47) F dX12_printOver_166 (by decide) ?_
    refine a_iast F (by decide) rfl (o_2 c_11) dX12_printOver_168 ?_
    refine a_aload_n F 0 dX12_printOver_169 rfl rfl ?_
    refine a_dup F dX12_printOver_170 rfl ?_
    refine a_geti F fl_12_170 rfl (by decide) rfl dX12_printOver_171 ?_
    refine a_iconst (v := 1) F dX12_printOver_174 (by decide) ?_
    refine a_iadd F dX12_printOver_175 ?_
    refine a_puti F fl_12_170 rfl rfl rfl rfl (by decide) rfl dX12_printOver_176 ?_
    refine a_aload_n F 0 dX12_printOver_179 rfl rfl ?_
    refine a_aload_n F 0 dX12_printOver_180 rfl rfl ?_
    refine a_getr (b := 63) F fl_12_112 rfl (by decide) rfl rfl dX12_printOver_181 ?_
    exact e_3 c_11

theorem r_12_printOver_187 {X : Ctx} (F : Fx X cX12_printOver RX12 4 3 0 0) {Φ : Option Value → HS → List Nat → Prop} (E : Ex X (some .int) 0 0 Φ) {I A : Nat → Nat → Int32} {J : Nat → Nat → Int64} {x1 x2 x3 : Int32}
    (e_1 : Φ (some (.int (I 0 61))) (mS I A J) plM) :
    WA X (mS I A J) plM 0 0 187 [(0, .ref 0), (1, .int x1), (2, .int x2), (3, .int x3)] [] := by
  refine a_aload_n F 0 dX12_printOver_187 rfl rfl ?_
  refine a_geti F fl_12_170 rfl (by decide) rfl dX12_printOver_188 ?_
  exact a_iret F E dX12_printOver_191 (Nat.le_refl 0) (Nat.le_refl 0) (e_1)

set_option maxRecDepth 10000 in
theorem c_printOver (l : Launch) (I A : Nat → Nat → Int32) (J : Nat → Nat → Int64) (p u : Nat) (hp : p ≤ 36) (hd : digV (A 62) 12) (hu : valR (A 62) 12 = u) : Con l 3 yX12_printOver cX12_printOver 4 (some .int) [.ref 0, .int (nI p)] (mS I A J) plM 0 0 (poQ I A J u p) := by
  refine Con.of (by decide) (Nat.le_of_ble_eq_true rfl) (fun X hX9 hn9 F E => ?_)
  have l36 : ∀ k, k ≤ 36 → 36 ^ k < 2 ^ (28 * 12) := fun k hk => Nat.lt_of_le_of_lt (Nat.pow_le_pow_right (by decide) hk) (by decide +kernel)
  have e2p : 2 * nI p = nI (2 * p) := by rw [lit 2, pk_mul]
  -- the parts are printed
  have fin : ∀ (x2 : Int32) (I1 A1 : Nat → Nat → Int32), (∀ k, k ≠ 61 → I1 0 k = I 0 k) → I1 0 61 = 0 → digV (A1 63) 12 → valR (A1 63) 12 = 36 ^ p → (∀ q, q ≠ 63 → A1 q = A q) → ¬ u = 0 → WA X (mS I1 A1 J) plM 0 0 81 [(0, .ref 0), (1, .int (nI p)), (2, .int x2)] [] := by
    intro x2 I1 A1 f1 f61 d63 v63 f2 hu0
    refine r_12_printOver_81 F ?_
    rw [e2p]
    refine a_callV (b := 0) (As := [.int 2, .int (nI (2 * p))]) (st := []) (ci := 12) F (c_lessen (xl X) I1 A1 J 2 (2 * p) u (36 ^ p) (by omega) (by omega) (by omega) (by rw [f2 62 (by decide)]; exact hd) (by rw [f2 62 (by decide)]; exact hu) d63 v63) ml_12_405 im_yX12_lessen se_yX12_lessen (by decide) (by decide) rfl (by decide) rfl rfl dX12_printOver_86 (by decide) (Nat.le_refl 0) (Nat.le_refl 0) (hl_r (by decide) (hl_i (hl_i hl_nil))) hs_nil ?_
    rintro _ _ _ ⟨A2, n2, rfl, rfl, rfl, g1, g2, g3, g4, g5, g6⟩ _
    show WA X (mS I1 A2 J) plM 0 0 89 [(0, .ref 0), (1, .int (nI p)), (2, .int x2)] []
    refine r_12_printOver_89 F ?_
    rw [e2p]
    refine a_callV (b := 0) (As := [.int 3, .int (nI (2 * p))]) (st := []) (ci := 12) F (c_lessen (xl X) I1 A2 J 3 (2 * p) (u / 2 ^ n2) (36 ^ p / 2 ^ n2) (by omega) (by omega) (by omega) g3 g4 g5 g6) ml_12_405 im_yX12_lessen se_yX12_lessen (by decide) (by decide) rfl (by decide) rfl rfl dX12_printOver_94 (by decide) (Nat.le_refl 0) (Nat.le_refl 0) (hl_r (by decide) (hl_i (hl_i hl_nil))) hs_nil ?_
    rintro _ _ _ ⟨A3, n3, rfl, rfl, rfl, k1, k2, k3, k4, k5, k6⟩ _
    show WA X (mS I1 A3 J) plM 0 0 97 [(0, .ref 0), (1, .int (nI p)), (2, .int x2)] []
    refine r_12_printOver_97 F ?_
    refine a_callV (b := 0) (As := [.ref 62]) (st := []) (ci := 12) F (c_printWhole (xl X) I1 A3 J 62 (u / 2 ^ n2 / 3 ^ n3) 0 (by decide) rfl rfl (by decide) (by decide) k3 k4 f61 (by omega)) ml_12_408 im_yX12_printWhole se_yX12_printWhole (by decide) (by decide) rfl (by decide) rfl rfl dX12_printOver_102 (by decide) (Nat.le_refl 0) (Nat.le_refl 0) (hl_r (by decide) (hl_i (hl_i hl_nil))) hs_nil ?_
    rintro _ _ _ ⟨I4, A4, a, rfl, rfl, rfl, m1, m2, m3, m4, m5, m6, m7⟩ _
    show WA X (mS I4 A4 J) plM 0 0 105 [(0, .ref 0), (1, .int (nI p)), (2, .int x2)] []
    rw [Nat.zero_add] at m2
    have e63 : A4 63 = A3 63 := m7 63 (by decide) (by decide) (by decide)
    have fr4 : ∀ q, q ≠ 59 → q ≠ 60 → q ≠ 62 → q ≠ 63 → q ≠ 64 → A4 q = A q := fun q q1 q2 q3 q4 q5 => by rw [m7 q q1 q2 q3, k1 q q3 q4 q5, g1 q q3 q4 q5]; exact f2 q q4
    have fI4 : ∀ k, k ≠ 61 → I4 0 k = I 0 k := fun k hk => (m1 k hk).trans (f1 k hk)
    refine r_12_printOver_105 F (vp_in_nI (n := 0) (by omega) (by omega)) ?_
    have vone := val_one (r := A4 63) (by rw [e63]; exact k5)
    have w63 : valR (A4 63) 12 = 36 ^ p / 2 ^ n2 / 3 ^ n3 := by rw [e63]; exact k6
    have loop : ∀ f k (x2 : Int32), k + f = 12 → 1 ≤ k → (x2 = 0 ∨ x2 = 1) → (x2 = 1 ↔ A4 63 0 = 1 ∧ ∀ j, 1 ≤ j → j < k → A4 63 j = 0) → WA X (mS I4 A4 J) plM 0 0 123 [(0, .ref 0), (1, .int (nI p)), (2, .int x2), (3, .int (nI k))] [] := by
      intro f
      induction f with
      | zero =>
        intro k x2 hk h1 hx hx1
        obtain rfl : k = 12 := by omega
        have h12 : (12 : Int32) ≤ nI 12 := by decide
        have hw : x2 = 1 ↔ 36 ^ p / 2 ^ n2 / 3 ^ n3 = 1 := by rw [hx1, ← vone, w63]
        refine r_12_printOver_123 F (fun _ => ?_) (fun z => absurd h12 z) (fun z => absurd h12 z)
        refine r_12_printOver_154 F (fun c => ?_) (fun _ => by rw [m2]; exact vp_in_nI (by omega) (by omega)) (fun c => ?_)
        · refine r_12_printOver_187 F E ?_
          rw [m2]
          refine ⟨I4, A4, a, dcd (u / 2 ^ n2 / 3 ^ n3) a, rfl, rfl, rfl, fI4, m2, by omega, Or.inr ⟨hu0, n2, n3, a, g2, k2, m3, fun _ _ => rfl, Or.inl ⟨hw.mp (hx.resolve_left c), rfl⟩⟩, fun i hi => ?_, fr4⟩
          have := m5 i hi; rw [Nat.zero_add] at this; exact this
        · have hne : 36 ^ p / 2 ^ n2 / 3 ^ n3 ≠ 1 := fun z => by rw [hw.mpr z] at c; exact absurd c (by decide)
          rw [m2, nI_clamp (by omega), nI_1]
          have r63 : up1 A4 59 (upd (A4 59) a 47) 63 = A4 63 := up1_p (by decide)
          refine a_callV (b := 0) (As := [.ref 63]) (st := []) (ci := 12) F (c_printWhole (xl X) (up2 I4 0 61 (nI (a + 1))) (up1 A4 59 (upd (A4 59) a 47)) J 63 (36 ^ p / 2 ^ n2 / 3 ^ n3) (a + 1) (by decide) rfl rfl (by decide) (by decide) (by rw [r63, e63]; exact k5) (by rw [r63]; exact w63) up2_s (by omega)) ml_12_408 im_yX12_printWhole se_yX12_printWhole (by decide) (by decide) rfl (by decide) rfl rfl dX12_printOver_184 (by decide) (Nat.le_refl 0) (Nat.le_refl 0) (hl_r (by decide) (hl_i (hl_i (hl_i hl_nil)))) hs_nil ?_
          rintro _ _ _ ⟨I5, A5, b, rfl, rfl, rfl, t1, t2, t3, t4, t5, t6, t7⟩ _
          show WA X (mS I5 A5 J) plM 0 0 187 [(0, .ref 0), (1, .int (nI p)), (2, .int x2), (3, .int (nI 12))] []
          refine r_12_printOver_187 F E ?_
          rw [t2]
          refine ⟨I5, A5, a + 1 + b, txF (u / 2 ^ n2 / 3 ^ n3) a (36 ^ p / 2 ^ n2 / 3 ^ n3) b, rfl, rfl, rfl, fun k hk => by rw [t1 k hk, up2_k hk]; exact fI4 k hk, t2, by omega, Or.inr ⟨hu0, n2, n3, a, g2, k2, m3, fun i hi => tx_1 hi, Or.inr ⟨hne, b, t3, rfl, tx_2, fun i hi => tx_3⟩⟩, fun i hi => ?_, fun q q1 q2 q3 q4 q5 => by rw [t7 q q1 q2 q4, up1_p q1]; exact fr4 q q1 q2 q3 q4 q5⟩
          rcases Nat.lt_trichotomy i a with z | z | z
          · rw [tx_1 z, t6 i (by omega), up1_s, upd_out (by omega)]; have := m5 i z; rw [Nat.zero_add] at this; exact this
          · subst z; rw [tx_2, t6 i (by omega), up1_s, upd_in]; rfl
          · obtain ⟨j, rfl⟩ : ∃ j, i = a + 1 + j := ⟨i - (a + 1), by omega⟩
            rw [tx_3]; exact t5 j (by omega)
      | succ f ih =>
        intro k x2 hk h1 hx hx1
        have h12 : ¬ (12 : Int32) ≤ nI k := nI_ge (b := 12) (by omega) (by omega)
        refine r_12_printOver_123 F (fun z => absurd z h12) (fun _ _ => vp_in_nI (by omega) (by omega)) (fun _ => ?_)
        rw [nI_clamp (by omega), nI_1]
        refine ih (k + 1) _ (by omega) (by omega) ?_ ?_
        · split; left; rfl; split; right; rfl; left; rfl
        · by_cases c : x2 = 0
          · rw [if_pos c]
            refine ⟨fun z => absurd z (by decide), fun z => ?_⟩
            have := hx1.mpr ⟨z.1, fun j j1 j2 => z.2 j j1 (by omega)⟩
            rw [c] at this; exact absurd this (by decide)
          · rw [if_neg c]
            have h3 := hx1.mp (hx.resolve_left c)
            by_cases c2 : A4 63 k = 0
            · rw [if_pos c2]
              refine ⟨fun _ => ⟨h3.1, fun j j1 j2 => ?_⟩, fun _ => rfl⟩
              rcases Nat.lt_or_ge j k with z | z
              · exact h3.2 j j1 z
              · obtain rfl : j = k := by omega
                exact c2
            · rw [if_neg c2]
              exact ⟨fun z => absurd z (by decide), fun z => absurd (z.2 k h1 (by omega)) c2⟩
    refine loop 11 1 _ rfl (by omega) ?_ ?_
    · split; right; rfl; left; rfl
    · by_cases c : A4 63 0 = 1
      · rw [if_pos c]; exact ⟨fun _ => ⟨c, fun j j1 j2 => by omega⟩, fun _ => rfl⟩
      · rw [if_neg c]; exact ⟨fun z => absurd z (by decide), fun z => absurd z.1 c⟩
  -- the powers of 36
  have pw : ∀ f k (A1 : Nat → Nat → Int32), k + f = p → digV (A1 63) 12 → valR (A1 63) 12 = 36 ^ k → (∀ q, q ≠ 63 → A1 q = A q) → WA X (mS (up2 I 0 61 0) A1 J) plM 0 0 36 [(0, .ref 0), (1, .int (nI p)), (2, .int (nI k))] [] := by
    intro f
    induction f with
    | zero =>
      intro k A1 hk d63 v63 f2
      obtain rfl : k = p := by omega
      have h := (nI_leI (a := k) (b := k) (by omega) (by omega)).mpr (Nat.le_refl _)
      refine r_12_printOver_36 F (fun _ => ?_) (fun z => absurd h z) (fun z => absurd h z) (fun z => absurd h z)
      refine r_12_printOver_56 F E (by rw [f2 62 (by decide)]; exact hd) (fun _ => vp_in_nI (n := 0) (by omega) (by omega)) (fun c => ?_) (fun c => ?_)
      · rw [f2 62 (by decide), hu] at c
        rw [up2_up2]
        refine ⟨_, _, 1, fun _ => 48, rfl, rfl, rfl, fun k hk => up2_k hk, up2_s, by omega, Or.inl ⟨c, rfl, rfl⟩, fun i hi => ?_, fun q q1 q2 q3 q4 q5 => by rw [up1_p q1]; exact f2 q q4⟩
        obtain rfl : i = 0 := by omega
        rw [up1_s, upd_in]; rfl
      · rw [f2 62 (by decide), hu] at c
        exact fin _ _ A1 (fun k hk => up2_k hk) up2_s d63 v63 f2 c
    | succ f ih =>
      intro k A1 hk d63 v63 f2
      have h : ¬ nI p ≤ nI k := fun z => by have := (nI_leI (a := p) (b := k) (by omega) (by omega)).mp z; omega
      refine r_12_printOver_36 F (fun z => absurd z h) (fun _ => d63) (fun _ => by decide) (fun _ => ?_)
      rw [v63, show (36 : Int32).toNatClampNeg = 36 from rfl, ← Nat.pow_succ, nI_1]
      refine ih (k + 1) _ (by omega) (by rw [up1_s]; exact put_dig) ?_ (fun q hq => by rw [up1_p hq]; exact f2 q hq)
      rw [up1_s, put_val 12 (Nat.le_refl _)]; exact Nat.mod_eq_of_lt (l36 _ (by omega))
  have init : ∀ f i, i + f = 12 → WA X (mS (up2 I 0 61 0) (up1 A 63 (fillF (A 63) i (fun k => if k = 0 then 1 else 0))) J) plM 0 0 7 [(0, .ref 0), (1, .int (nI p)), (2, .int (nI i))] [] := by
    intro f
    induction f with
    | zero =>
      intro i hi
      obtain rfl : i = 12 := by omega
      have h12 : (12 : Int32) ≤ nI 12 := by decide
      refine r_12_printOver_7 F (fun _ => ?_) (fun z => absurd h12 z) (fun z => absurd h12 z)
      have d63 : digV (fillF (A 63) 12 (fun k => if k = 0 then 1 else 0)) 12 := fun k hk => by
        rw [fill_in hk]
        by_cases c : k = 0
        · exact ⟨1, by decide, by rw [if_pos c]; rfl⟩
        · exact ⟨0, by decide, by rw [if_neg c]; rfl⟩
      refine pw p 0 _ (by omega) (by rw [up1_s]; exact d63) ?_ (fun q hq => up1_p hq)
      rw [up1_s, Nat.pow_zero]
      exact (val_one d63).mpr ⟨by rw [fill_in (by omega), if_pos rfl], fun k h1 h2 => by rw [fill_in h2, if_neg (by omega)]⟩
    | succ f ih =>
      intro i hi
      have h12 : ¬ (12 : Int32) ≤ nI i := nI_ge (b := 12) (by omega) (by omega)
      refine r_12_printOver_7 F (fun z => absurd z h12) (fun _ => vp_in_nI (by omega) (by omega)) (fun _ => ?_)
      have ei : (if nI i = 0 then (1 : Int32) else 0) = (fun k => if k = 0 then (1 : Int32) else 0) i := by
        by_cases c : i = 0
        · rw [if_pos ((nI_z (by omega)).mpr c)]; show _ = if i = 0 then (1 : Int32) else 0; rw [if_pos c]
        · rw [if_neg (fun z => c ((nI_z (by omega)).mp z))]; show _ = if i = 0 then (1 : Int32) else 0; rw [if_neg c]
      rw [nI_clamp (by omega), nI_1, up1_s, up1_up1, ei, fill_s]
      exact ih (i + 1) (by omega)
  refine r_12_printOver_0 F ?_
  have := init 12 0 rfl
  rw [fill_0, up1_id] at this
  exact this
