/-! told moves, one behind another -/
def dkN (a b k : Nat) : Nat := if k = 0 then a else b
noncomputable def nbB (m a b : Nat) (fr : Nat → Nat) (B0 : Nat → Nat) : Nat → (Nat → Nat)
  | 0 => B0
  | k + 1 => mvB (nbB m a b fr B0 k) m (fr k) (dkN a b k)
def okM (m a b : Nat) (mv : MV) (B0 : Nat → Nat) (k : Nat) : Prop := mv.2.2.1 k = mv.2.1 k - dkN a b k ∧ 1 ≤ mv.2.1 k ∧ cmP (nbB m a b mv.2.1 B0 k) m (mv.2.1 k) (dkN a b k)
noncomputable def htN (m a b : Nat) (mv : MV) (B0 : Nat → Nat) (k : Nat) : Int32 := @ite Int32 (hitP (nbB m a b mv.2.1 B0 k) m (mv.2.1 k) (dkN a b k)) (Classical.propDecidable _) 1 0
def goodM (m a b : Nat) (mv : MV) (B0 : Nat → Nat) (wt : Nat) : Prop := mv.1 ≤ (if a = b then 4 else 2) ∧ (∀ k, k < mv.1 → okM m a b mv B0 k) ∧ 2 * mv.1 + (if mv.1 = 1 ∧ b < a then 1 else 0) = wt
theorem nb_ok {m a b k : Nat} {mv : MV} {B0 : Nat → Nat} (hm : m ≤ 1) (ha : 1 ≤ a) (hb : 1 ≤ b) (hf : ∀ j, j < k → mv.2.1 j ≤ 25) (h : okB B0) : (∀ j, j < k → okM m a b mv B0 j) → okB (nbB m a b mv.2.1 B0 k) := fun ho => by
  induction k with
  | zero => exact h
  | succ k ih =>
    have o := ho k (by omega)
    exact mvB_okP (ih (fun j hj => hf j (by omega)) (fun j hj => ho j (by omega))) hm o.2.1 (hf k (by omega)) (by unfold dkN; split <;> omega) o.2.2
def nyQ (P O : Nat → Nat → Option Nat) (I A : Nat → Nat → Int32) (J : Nat → Nat → Int64) (pl : List Nat) (m a b : Nat) (mv : MV) (B0 : Nat → Nat) (τ : TB) : Option Value → HS → List Nat → Prop := fun r σ' pl' => pl = pl' ∧ ∃ I' A' J', σ' = mC P O I' A' J' ∧ (∀ q k, ¬ (q = 110 ∧ k = 8) → I' q k = I q k) ∧ (∀ q, q ≠ 112 → q ≠ 131 → A' q = A q) ∧ (∀ q, q ≠ 111 → J' q = J q) ∧ bdR (A' 131) 0 B0 ∧ (¬ goodM m a b mv B0 τ.1 → r = some (.int (-1))) ∧ (goodM m a b mv B0 τ.1 → r = some (.int (nI (pN m τ.2.1 τ.2.2.1 (key m (nbB m a b mv.2.1 B0 mv.1))))) ∧ I' 110 8 = @ite Int32 (∀ k, k < mv.1 → A 109 k = htN m a b mv B0 k) (Classical.propDecidable _) 1 0)

theorem r_6_numberBy_0 {X : Ctx} (F : Fx X cX6_numberBy RX6 9 5 0 0) {Φ : Option Value → HS → List Nat → Prop} (E : Ex X (some .int) 0 0 Φ) {P O : Nat → Nat → Option Nat} (hP : laP P) {I A : Nat → Nat → Int32} {J : Nat → Nat → Int64} {pl : List Nat} (hB : inB pl) {qc qo : Nat} (hk_qc : kC qc = 14) (hp_qc : qc ∈ pl) (hc9 : P 110 3 = some qc) (hk_qo : kC qo = 13) (hp_qo : qo ∈ pl) (ho9 : P 110 4 = some qo) {x2 x3 : Int32}
    (e_1 : (¬ x2 = x3) → ((I 106 5) ≤ 2) → WA X (mC P O I A J) pl 0 0 26 [(0, .ref 110), (1, .ref 106), (2, .int x2), (3, .int x3), (4, .int 2), (5, .int 0)] [])
    (e_2 : (¬ x2 = x3) → (¬ ((I 106 5) ≤ 2)) → Φ (some (.int (-1))) (mC P O I A J) pl)
    (e_3 : (x2 = x3) → ((I 106 5) ≤ 4) → WA X (mC P O I A J) pl 0 0 26 [(0, .ref 110), (1, .ref 106), (2, .int x2), (3, .int x3), (4, .int 4), (5, .int 0)] [])
    (e_4 : (x2 = x3) → (¬ ((I 106 5) ≤ 4)) → Φ (some (.int (-1))) (mC P O I A J) pl) :
    WA X (mC P O I A J) pl 0 0 0 [(0, .ref 110), (1, .ref 106), (2, .int x2), (3, .int x3)] [] := by
  refine a_iload_n F 2 dX6_numberBy_0 rfl rfl ?_
  refine a_iload_n F 3 dX6_numberBy_1 rfl rfl ?_
  refine a_icmp_ne (tgt := 9) F dX6_numberBy_2 (by decide) (fun (c_1 : ¬ x2 = x3) => ?_) (fun (c_1 : x2 = x3) => ?_)
  · refine a_iconst (v := 2) F dX6_numberBy_9 (by decide) ?_
    refine a_istore F dX6_numberBy_10 (by decide) rfl ?_
    refine a_aload_n F 2 dX6_numberBy_12 rfl rfl ?_
    refine a_geti F fl_6_134 rfl (hB _ (by decide)) rfl dX6_numberBy_13 ?_
    refine a_iload F 0 dX6_numberBy_16 rfl ?_
    refine a_icmp_le (tgt := 23) F dX6_numberBy_18 (by decide) (fun (c_2 : (I 106 5) ≤ 2) => ?_) (fun (c_2 : ¬ ((I 106 5) ≤ 2)) => ?_)
    · refine a_iconst (v := 0) F dX6_numberBy_23 (by decide) ?_
      refine a_istore F dX6_numberBy_24 (by decide) rfl ?_
      refine a_sub [2, 3, 4, 5, 1, 0] rfl ?_
      exact e_1 c_1 c_2
    · refine a_iconst (v := (-1)) F dX6_numberBy_21 (by decide) ?_
      exact a_iret F E dX6_numberBy_22 (Nat.le_refl 0) (Nat.le_refl 0) (e_2 c_1 c_2)
  · refine a_iconst (v := 4) F dX6_numberBy_5 (by decide) ?_
    refine a_goto (tgt := 10) F dX6_numberBy_6 (by decide) ?_
    refine a_istore F dX6_numberBy_10 (by decide) rfl ?_
    refine a_aload_n F 2 dX6_numberBy_12 rfl rfl ?_
    refine a_geti F fl_6_134 rfl (hB _ (by decide)) rfl dX6_numberBy_13 ?_
    refine a_iload F 0 dX6_numberBy_16 rfl ?_
    refine a_icmp_le (tgt := 23) F dX6_numberBy_18 (by decide) (fun (c_3 : (I 106 5) ≤ 4) => ?_) (fun (c_3 : ¬ ((I 106 5) ≤ 4)) => ?_)
    · refine a_iconst (v := 0) F dX6_numberBy_23 (by decide) ?_
      refine a_istore F dX6_numberBy_24 (by decide) rfl ?_
      refine a_sub [2, 3, 4, 5, 1, 0] rfl ?_
      exact e_3 c_1 c_3
    · refine a_iconst (v := (-1)) F dX6_numberBy_21 (by decide) ?_
      exact a_iret F E dX6_numberBy_22 (Nat.le_refl 0) (Nat.le_refl 0) (e_4 c_1 c_3)

theorem r_6_numberBy_26 {X : Ctx} (F : Fx X cX6_numberBy RX6 9 5 0 0) {P O : Nat → Nat → Option Nat} (hP : laP P) {I A : Nat → Nat → Int32} {J : Nat → Nat → Int64} {pl : List Nat} (hB : inB pl) {qc qo : Nat} (hk_qc : kC qc = 14) (hp_qc : qc ∈ pl) (hc9 : P 110 3 = some qc) (hk_qo : kC qo = 13) (hp_qo : qo ∈ pl) (ho9 : P 110 4 = some qo) {x2 x3 x4 x5 : Int32}
    (e_1 : ((I 106 5) ≤ x5) → WA X (mC P O I A J) pl 0 0 61 [(0, .ref 110), (1, .ref 106), (2, .int x2), (3, .int x3), (4, .int x4), (5, .int x5)] [])
    (e_2 : (¬ ((I 106 5) ≤ x5)) → (¬ x5 = 0) → WA X (mC P O I A J) pl 0 0 49 [(0, .ref 110), (1, .ref 106), (2, .int x2), (3, .int x3), (4, .int x4), (5, .int x5)] [.int x3, .int x5, .ref 106, .ref 110])
    (e_3 : (¬ ((I 106 5) ≤ x5)) → (x5 = 0) → WA X (mC P O I A J) pl 0 0 49 [(0, .ref 110), (1, .ref 106), (2, .int x2), (3, .int x3), (4, .int x4), (5, .int x5)] [.int x2, .int x5, .ref 106, .ref 110]) :
    WA X (mC P O I A J) pl 0 0 26 [(0, .ref 110), (1, .ref 106), (2, .int x2), (3, .int x3), (4, .int x4), (5, .int x5)] [] := by
  refine a_iload F 5 dX6_numberBy_26 rfl ?_
  refine a_aload_n F 1 dX6_numberBy_28 rfl rfl ?_
  refine a_geti F fl_6_134 rfl (hB _ (by decide)) rfl dX6_numberBy_29 ?_
  refine a_icmp_ge (tgt := 61) F dX6_numberBy_32 (by decide) (fun (c_4 : (I 106 5) ≤ x5) => ?_) (fun (c_4 : ¬ ((I 106 5) ≤ x5)) => ?_)
  · exact e_1 c_4
  · refine a_aload_n F 0 dX6_numberBy_35 rfl rfl ?_
    refine a_aload_n F 1 dX6_numberBy_36 rfl rfl ?_
    refine a_iload F 5 dX6_numberBy_37 rfl ?_
    refine a_iload F 5 dX6_numberBy_39 rfl ?_
    refine a_if_ne (tgt := 48) F dX6_numberBy_41 (by decide) (fun (c_5 : ¬ x5 = 0) => ?_) (fun (c_5 : x5 = 0) => ?_)
    · refine a_iload_n F 3 dX6_numberBy_48 rfl rfl ?_
      exact e_2 c_4 c_5
    · refine a_iload_n F 2 dX6_numberBy_44 rfl rfl ?_
      refine a_goto (tgt := 49) F dX6_numberBy_45 (by decide) ?_
      exact e_3 c_4 c_5

theorem r_6_numberBy_61 {X : Ctx} (F : Fx X cX6_numberBy RX6 9 5 0 0) {P O : Nat → Nat → Option Nat} (hP : laP P) {I A : Nat → Nat → Int32} {J : Nat → Nat → Int64} {pl : List Nat} (hB : inB pl) {qc qo : Nat} (hk_qc : kC qc = 14) (hp_qc : qc ∈ pl) (hc9 : P 110 3 = some qc) (hk_qo : kC qo = 13) (hp_qo : qo ∈ pl) (ho9 : P 110 4 = some qo) {x2 x3 x4 x5 : Int32}
    (e_1 : (¬ x5 = 1) → WA X (mC P O I A J) pl 0 0 82 [(0, .ref 110), (1, .ref 106), (2, .int x2), (3, .int x3), (4, .int x4), (5, .int x5), (6, .int (-1)), (7, .int 0)] [])
    (e_2 : (x5 = 1) → (x2 ≤ x3) → WA X (mC P O I A J) pl 0 0 82 [(0, .ref 110), (1, .ref 106), (2, .int x2), (3, .int x3), (4, .int x4), (5, .int x5), (6, .int (-1)), (7, .int 0)] [])
    (e_3 : (x5 = 1) → (¬ (x2 ≤ x3)) → WA X (mC P O I A J) pl 0 0 82 [(0, .ref 110), (1, .ref 106), (2, .int x2), (3, .int x3), (4, .int x4), (5, .int x5), (6, .int (-1)), (7, .int 1)] []) :
    WA X (mC P O I A J) pl 0 0 61 [(0, .ref 110), (1, .ref 106), (2, .int x2), (3, .int x3), (4, .int x4), (5, .int x5)] [] := by
  refine a_iconst (v := (-1)) F dX6_numberBy_61 (by decide) ?_
  refine a_istore F dX6_numberBy_62 (by decide) rfl ?_
  refine a_iload F 6 dX6_numberBy_64 rfl ?_
  refine a_iconst (v := 1) F dX6_numberBy_66 (by decide) ?_
  refine a_icmp_ne (tgt := 79) F dX6_numberBy_67 (by decide) (fun (c_6 : ¬ x5 = 1) => ?_) (fun (c_6 : x5 = 1) => ?_)
  · refine a_iconst (v := 0) F dX6_numberBy_79 (by decide) ?_
    refine a_istore F dX6_numberBy_80 (by decide) rfl ?_
    refine a_sub [2, 3, 4, 5, 6, 7, 1, 0] rfl ?_
    exact e_1 c_6
  · refine a_iload_n F 3 dX6_numberBy_70 rfl rfl ?_
    refine a_iload_n F 4 dX6_numberBy_71 rfl rfl ?_
    refine a_icmp_le (tgt := 79) F dX6_numberBy_72 (by decide) (fun (c_7 : x2 ≤ x3) => ?_) (fun (c_7 : ¬ (x2 ≤ x3)) => ?_)
    · refine a_iconst (v := 0) F dX6_numberBy_79 (by decide) ?_
      refine a_istore F dX6_numberBy_80 (by decide) rfl ?_
      refine a_sub [2, 3, 4, 5, 6, 7, 1, 0] rfl ?_
      exact e_2 c_6 c_7
    · refine a_iconst (v := 1) F dX6_numberBy_75 (by decide) ?_
      refine a_goto (tgt := 80) F dX6_numberBy_76 (by decide) ?_
      refine a_istore F dX6_numberBy_80 (by decide) rfl ?_
      refine a_sub [2, 3, 4, 5, 6, 7, 1, 0] rfl ?_
      exact e_3 c_6 c_7

theorem r_6_numberBy_82 {X : Ctx} (F : Fx X cX6_numberBy RX6 9 5 0 0) {P O : Nat → Nat → Option Nat} (hP : laP P) {I A : Nat → Nat → Int32} {J : Nat → Nat → Int64} {pl : List Nat} (hB : inB pl) {qc qo : Nat} (hk_qc : kC qc = 14) (hp_qc : qc ∈ pl) (hc9 : P 110 3 = some qc) (hk_qo : kC qo = 13) (hp_qo : qo ∈ pl) (ho9 : P 110 4 = some qo) {x2 x3 x4 x5 x6 x7 : Int32}
    (e_1 : (¬ x5 = (I 106 5)) → WA X (mC P O I A J) pl 0 0 120 [(0, .ref 110), (1, .ref 106), (2, .int x2), (3, .int x3), (4, .int x4), (5, .int x5), (6, .int x6), (7, .int x7)] [])
    (e_2 : (x5 = (I 106 5)) → (¬ ((2 * x5) + x7) = (I 110 5)) → WA X (mC P O I A J) pl 0 0 120 [(0, .ref 110), (1, .ref 106), (2, .int x2), (3, .int x3), (4, .int x4), (5, .int x5), (6, .int x6), (7, .int x7)] [])
    (e_3 : (x5 = (I 106 5)) → (((2 * x5) + x7) = (I 110 5)) → WA X (mC P O I A J) pl 0 0 106 [(0, .ref 110), (1, .ref 106), (2, .int x2), (3, .int x3), (4, .int x4), (5, .int x5), (6, .int x6), (7, .int x7)] [.ref 110]) :
    WA X (mC P O I A J) pl 0 0 82 [(0, .ref 110), (1, .ref 106), (2, .int x2), (3, .int x3), (4, .int x4), (5, .int x5), (6, .int x6), (7, .int x7)] [] := by
  refine a_iload F 5 dX6_numberBy_82 rfl ?_
  refine a_aload_n F 1 dX6_numberBy_84 rfl rfl ?_
  refine a_geti F fl_6_134 rfl (hB _ (by decide)) rfl dX6_numberBy_85 ?_
  refine a_icmp_ne (tgt := 120) F dX6_numberBy_88 (by decide) (fun (c_8 : ¬ x5 = (I 106 5)) => ?_) (fun (c_8 : x5 = (I 106 5)) => ?_)
  · exact e_1 c_8
  · refine a_iconst (v := 2) F dX6_numberBy_91 (by decide) ?_
    refine a_iload F 5 dX6_numberBy_92 rfl ?_
    refine a_imul F dX6_numberBy_94 ?_
    refine a_iload F 7 dX6_numberBy_95 rfl ?_
    refine a_iadd F dX6_numberBy_97 ?_
    refine a_aload_n F 0 dX6_numberBy_98 rfl rfl ?_
    refine a_geti F fl_6_34 rfl (hB _ (by decide)) rfl dX6_numberBy_99 ?_
    refine a_icmp_ne (tgt := 120) F dX6_numberBy_102 (by decide) (fun (c_9 : ¬ ((2 * x5) + x7) = (I 110 5)) => ?_) (fun (c_9 : ((2 * x5) + x7) = (I 110 5)) => ?_)
    · exact e_2 c_8 c_9
    · refine a_aload_n F 0 dX6_numberBy_105 rfl rfl ?_
      exact e_3 c_8 c_9

theorem r_6_numberBy_120 {X : Ctx} (F : Fx X cX6_numberBy RX6 9 5 0 0) {P O : Nat → Nat → Option Nat} (hP : laP P) {I A : Nat → Nat → Int32} {J : Nat → Nat → Int64} {pl : List Nat} (hB : inB pl) {qc qo : Nat} (hk_qc : kC qc = 14) (hp_qc : qc ∈ pl) (hc9 : P 110 3 = some qc) (hk_qo : kC qo = 13) (hp_qo : qo ∈ pl) (ho9 : P 110 4 = some qo) {x2 x3 x4 x5 x6 x7 : Int32}
    (e_1 : WA X (mC P O I A J) pl 0 0 126 [(0, .ref 110), (1, .ref 106), (2, .int x2), (3, .int x3), (4, .int x4), (5, .int x5), (6, .int x6), (7, .int x7), (8, .int (x5 - 1))] []) :
    WA X (mC P O I A J) pl 0 0 120 [(0, .ref 110), (1, .ref 106), (2, .int x2), (3, .int x3), (4, .int x4), (5, .int x5), (6, .int x6), (7, .int x7)] [] := by
  refine a_iload F 5 dX6_numberBy_120 rfl ?_
  refine a_iconst (v := 1) F dX6_numberBy_122 (by decide) ?_
  refine a_isub F dX6_numberBy_123 ?_
  refine a_istore F dX6_numberBy_124 (by decide) rfl ?_
  refine a_sub [1, 2, 3, 4, 5, 6, 7, 8, 0] rfl ?_
  exact e_1

theorem r_6_numberBy_126 {X : Ctx} (F : Fx X cX6_numberBy RX6 9 5 0 0) {Φ : Option Value → HS → List Nat → Prop} (E : Ex X (some .int) 0 0 Φ) {P O : Nat → Nat → Option Nat} (hP : laP P) {I A : Nat → Nat → Int32} {J : Nat → Nat → Int64} {pl : List Nat} (hB : inB pl) {qc qo : Nat} (hk_qc : kC qc = 14) (hp_qc : qc ∈ pl) (hc9 : P 110 3 = some qc) (hk_qo : kC qo = 13) (hp_qo : qo ∈ pl) (ho9 : P 110 4 = some qo) {x2 x3 x4 x5 x6 x7 x8 : Int32}
    (e_1 : (x8 < 0) → Φ (some (.int x6)) (mC P O I A J) pl)
    (o_2 : (¬ (x8 < 0)) → vp_in x8 8)
    (o_3 : (¬ (x8 < 0)) → vp_in x8 8)
    (o_4 : (¬ (x8 < 0)) → vp_in x8 4)
    (e_5 : (¬ (x8 < 0)) → WA X (mC P O I A J) pl 0 0 156 [(0, .ref 110), (1, .ref 106), (2, .int x2), (3, .int x3), (4, .int x4), (5, .int x5), (6, .int x6), (7, .int x7), (8, .int x8)] [.int (A 112 x8.toNatClampNeg), .int (A 108 x8.toNatClampNeg), .int (A 107 x8.toNatClampNeg), .ref 130]) :
    WA X (mC P O I A J) pl 0 0 126 [(0, .ref 110), (1, .ref 106), (2, .int x2), (3, .int x3), (4, .int x4), (5, .int x5), (6, .int x6), (7, .int x7), (8, .int x8)] [] := by
  refine a_iload F 8 dX6_numberBy_126 rfl ?_
  refine a_if_lt (tgt := 165) F dX6_numberBy_128 (by decide) (fun (c_10 : x8 < 0) => ?_) (fun (c_10 : ¬ (x8 < 0)) => ?_)
  · refine a_iload F 6 dX6_numberBy_165 rfl ?_
    exact a_iret F E dX6_numberBy_167 (Nat.le_refl 0) (Nat.le_refl 0) (e_1 c_10)
  · refine a_aload_n F 0 dX6_numberBy_131 rfl rfl ?_
    refine a_getr (b := 130) F fl_6_26 rfl (hB _ (by decide)) rfl ((hP 110 0 (by decide)).trans rfl) dX6_numberBy_132 ?_
    refine a_aload_n F 1 dX6_numberBy_135 rfl rfl ?_
    refine a_getr (b := 107) F fl_6_145 rfl (hB _ (by decide)) rfl ((hP 106 2 (by decide)).trans rfl) dX6_numberBy_136 ?_
    refine a_iload F 8 dX6_numberBy_139 rfl ?_
    refine a_iald F (hB _ (by decide)) rfl (o_2 c_10) dX6_numberBy_141 ?_
    refine a_aload_n F 1 dX6_numberBy_142 rfl rfl ?_
    refine a_getr (b := 108) F fl_6_148 rfl (hB _ (by decide)) rfl ((hP 106 3 (by decide)).trans rfl) dX6_numberBy_143 ?_
    refine a_iload F 8 dX6_numberBy_146 rfl ?_
    refine a_iald F (hB _ (by decide)) rfl (o_3 c_10) dX6_numberBy_148 ?_
    refine a_aload_n F 0 dX6_numberBy_149 rfl rfl ?_
    refine a_getr (b := 112) F fl_6_15 rfl (hB _ (by decide)) rfl ((hP 110 2 (by decide)).trans rfl) dX6_numberBy_150 ?_
    refine a_iload F 8 dX6_numberBy_153 rfl ?_
    refine a_zald F (hB _ (by decide)) rfl (o_4 c_10) dX6_numberBy_155 ?_
    exact e_5 c_10

theorem r_6_numberBy_52 {X : Ctx} (F : Fx X cX6_numberBy RX6 9 5 0 0) {P O : Nat → Nat → Option Nat} (hP : laP P) {I A : Nat → Nat → Int32} {J : Nat → Nat → Int64} {pl : List Nat} (hB : inB pl) {qc qo : Nat} (hk_qc : kC qc = 14) (hp_qc : qc ∈ pl) (hc9 : P 110 3 = some qc) (hk_qo : kC qo = 13) (hp_qo : qo ∈ pl) (ho9 : P 110 4 = some qo) {x2 x3 x4 x5 x9 : Int32}
    (e_1 : (x9 = 0) → WA X (mC P O I A J) pl 0 0 61 [(0, .ref 110), (1, .ref 106), (2, .int x2), (3, .int x3), (4, .int x4), (5, .int x5)] [])
    (e_2 : (¬ (x9 = 0)) → WA X (mC P O I A J) pl 0 0 26 [(0, .ref 110), (1, .ref 106), (2, .int x2), (3, .int x3), (4, .int x4), (5, .int (x5 + 1))] []) :
    WA X (mC P O I A J) pl 0 0 52 [(0, .ref 110), (1, .ref 106), (2, .int x2), (3, .int x3), (4, .int x4), (5, .int x5)] [.int x9] := by
  refine a_if_eq (tgt := 61) F dX6_numberBy_52 (by decide) (fun (c_11 : x9 = 0) => ?_) (fun (c_11 : ¬ (x9 = 0)) => ?_)
  · exact e_1 c_11
  · refine a_iinc (v := x5 + 1) F 5 dX6_numberBy_55 rfl rfl (by decide) rfl ?_
    refine a_goto (tgt := 26) F dX6_numberBy_58 (by decide) ?_
    refine a_sub [1, 2, 3, 4, 5, 0] rfl ?_
    exact e_2 c_11

theorem r_6_numberBy_109 {X : Ctx} (F : Fx X cX6_numberBy RX6 9 5 0 0) {P O : Nat → Nat → Option Nat} (hP : laP P) {I A : Nat → Nat → Int32} {J : Nat → Nat → Int64} {pl : List Nat} (hB : inB pl) {qc qo : Nat} (hk_qc : kC qc = 14) (hp_qc : qc ∈ pl) (hc9 : P 110 3 = some qc) (hk_qo : kC qo = 13) (hp_qo : qo ∈ pl) (ho9 : P 110 4 = some qo) {x2 x3 x4 x5 x6 x7 : Int32}
    (e_1 : WA X (mC P O I A J) pl 0 0 110 [(0, .ref 110), (1, .ref 106), (2, .int x2), (3, .int x3), (4, .int x4), (5, .int x5), (6, .int x6), (7, .int x7)] [.ref 110]) :
    WA X (mC P O I A J) pl 0 0 109 [(0, .ref 110), (1, .ref 106), (2, .int x2), (3, .int x3), (4, .int x4), (5, .int x5), (6, .int x6), (7, .int x7)] [] := by
  refine a_aload_n F 0 dX6_numberBy_109 rfl rfl ?_
  exact e_1

theorem r_6_numberBy_113 {X : Ctx} (F : Fx X cX6_numberBy RX6 9 5 0 0) {P O : Nat → Nat → Option Nat} (hP : laP P) {I A : Nat → Nat → Int32} {J : Nat → Nat → Int64} {pl : List Nat} (hB : inB pl) {qc qo : Nat} (hk_qc : kC qc = 14) (hp_qc : qc ∈ pl) (hc9 : P 110 3 = some qc) (hk_qo : kC qo = 13) (hp_qo : qo ∈ pl) (ho9 : P 110 4 = some qo) {x2 x3 x4 x5 x6 x7 x9 : Int32}
    (e_1 : WA X (mC P O I A J) pl 0 0 117 [(6, .int x9), (0, .ref 110), (1, .ref 106), (2, .int x2), (3, .int x3), (4, .int x4), (5, .int x5), (7, .int x7)] [.ref 106, .ref 110]) :
    WA X (mC P O I A J) pl 0 0 113 [(0, .ref 110), (1, .ref 106), (2, .int x2), (3, .int x3), (4, .int x4), (5, .int x5), (6, .int x6), (7, .int x7)] [.int x9] := by
  refine a_istore F dX6_numberBy_113 (by decide) rfl ?_
  refine a_aload_n F 1 dX6_numberBy_115 rfl rfl ?_
  refine a_aload_n F 2 dX6_numberBy_116 rfl rfl ?_
  exact e_1

theorem r_6_numberBy_159 {X : Ctx} (F : Fx X cX6_numberBy RX6 9 5 0 0) {P O : Nat → Nat → Option Nat} (hP : laP P) {I A : Nat → Nat → Int32} {J : Nat → Nat → Int64} {pl : List Nat} (hB : inB pl) {qc qo : Nat} (hk_qc : kC qc = 14) (hp_qc : qc ∈ pl) (hc9 : P 110 3 = some qc) (hk_qo : kC qo = 13) (hp_qo : qo ∈ pl) (ho9 : P 110 4 = some qo) {x2 x3 x4 x5 x6 x7 x8 : Int32}
    (e_1 : WA X (mC P O I A J) pl 0 0 126 [(0, .ref 110), (1, .ref 106), (2, .int x2), (3, .int x3), (4, .int x4), (5, .int x5), (6, .int x6), (7, .int x7), (8, .int (x8 + (-1)))] []) :
    WA X (mC P O I A J) pl 0 0 159 [(0, .ref 110), (1, .ref 106), (2, .int x2), (3, .int x3), (4, .int x4), (5, .int x5), (6, .int x6), (7, .int x7), (8, .int x8)] [] := by
  refine a_iinc (v := x8 + (-1)) F 8 dX6_numberBy_159 rfl rfl (by decide) rfl ?_
  refine a_goto (tgt := 126) F dX6_numberBy_162 (by decide) ?_
  refine a_sub [1, 2, 3, 4, 5, 6, 7, 8, 0] rfl ?_
  exact e_1

set_option maxRecDepth 100000 in
theorem c_6_numberBy (l : Launch) {P O : Nat → Nat → Option Nat} (hP : laP P) (I A : Nat → Nat → Int32) (J : Nat → Nat → Int64) {pl : List Nat} (hB : inB pl) (m a b : Nat) (mv : MV) (B0 : Nat → Nat) (τ : TB) (hm : m ≤ 1) (ha : 1 ≤ a ∧ a ≤ 6) (hb9 : 1 ≤ b ∧ b ≤ 6) (hok : okB B0) (ht : tbS P I A J pl m τ) (hwt : τ.1 ≤ 9) (hmv : mvC I A mv) (hb : bdR (A 131) 0 B0) (hI : I 130 1 = nI m) : Con l 5 yX6_numberBy cX6_numberBy 9 (some .int) [.ref 110, .ref 106, .int (nI a), .int (nI b)] (mC P O I A J) pl 0 0 (nyQ P O I A J pl m a b mv B0 τ) := by
  refine Con.of (by decide) (Nat.le_of_ble_eq_true rfl) (fun X hX9 hn9 F E => ?_)
  have ht0 := ht
  obtain ⟨k1, k2, k3, k4, k5, k6, k7⟩ := tb_len ht
  obtain ⟨hM, t3, t4, t5, t6, t7, tc, ts, o, tr⟩ := ht
  obtain ⟨m5, m8, mr⟩ := hmv
  obtain ⟨n, hn⟩ : ∃ n, mv.1 = n := ⟨_, rfl⟩
  rw [hn] at m5 m8 mr
  have dk1 : ∀ k, 1 ≤ dkN a b k ∧ dkN a b k ≤ 6 := fun k => by unfold dkN; split <;> omega
  have cab : nI a = nI b ↔ a = b := nI_eq (by omega) (by omega)
  have leb : nI a ≤ nI b ↔ a ≤ b := nI_leI (by omega) (by omega)
  -- back again
  have un : ∀ k (x4 x5 x6 x7 x8 : Int32) (I1 A1 : Nat → Nat → Int32) (J1 : Nat → Nat → Int64), k ≤ 4 → k ≤ n → ((k = 0 ∧ x8 = -1) ∨ (1 ≤ k ∧ x8 = nI (k - 1))) → (∀ j, j < k → okM m a b mv B0 j) → (∀ q k, ¬ (q = 110 ∧ k = 8) → I1 q k = I q k) → (∀ q, q ≠ 112 → q ≠ 131 → A1 q = A q) → bdR (A1 131) 0 (nbB m a b mv.2.1 B0 k) → (∀ j, j < k → A1 112 j = htN m a b mv B0 j) → (∀ A2, (∀ q, q ≠ 112 → q ≠ 131 → A2 q = A q) → bdR (A2 131) 0 B0 → nyQ P O I A J pl m a b mv B0 τ (some (.int x6)) (mC P O I1 A2 J1) pl) → WA X (mC P O I1 A1 J1) pl 0 0 126 [(0, .ref 110), (1, .ref 106), (2, .int (nI a)), (3, .int (nI b)), (4, .int x4), (5, .int x5), (6, .int x6), (7, .int x7), (8, .int x8)] [] := by
    intro k
    induction k with
    | zero =>
      intro x4 x5 x6 x7 x8 I1 A1 J1 _ _ hx ho i1 a1 b1 h1 fin
      have e : x8 = -1 := by rcases hx with h | h; exact h.2; omega
      have lt : x8 < 0 := by rw [e]; decide
      exact r_6_numberBy_126 F E hP hB k1 k2 t3 k3 k4 t4 (fun _ => fin A1 a1 b1) (fun z => absurd lt z) (fun z => absurd lt z) (fun z => absurd lt z) (fun z => absurd lt z)
    | succ k ih =>
      intro x4 x5 x6 x7 x8 I1 A1 J1 k9 kn hx ho i1 a1 b1 h1 fin
      have e : x8 = nI k := by rcases hx with h | h; omega; exact h.2
      subst e
      have nl : ¬ nI k < 0 := Int32.not_lt.mpr (nI_pos' (by omega))
      have ck : (nI k).toNatClampNeg = k := nI_clamp (by omega)
      have v8 : vp_in (nI k) 8 := vp_in_nI (by omega) (by omega)
      refine r_6_numberBy_126 F E hP hB k1 k2 t3 k3 k4 t4 (fun z => absurd z nl) (fun _ => v8) (fun _ => v8) (fun _ => vp_in_nI (by omega) (by omega)) (fun _ => ?_)
      have ok := ho k (by omega)
      obtain ⟨q1, q2, q3, q4, -⟩ := mr k (by omega)
      have okb := nb_ok hm ha.1 hb9.1 (fun j hj => (mr j (by omega)).2.1) hok (k := k) (fun j hj => ho j (by omega))
      rw [ck, a1 107 (by decide) (by decide), a1 108 (by decide) (by decide), q1, q3, h1 k (by omega), ok.1]
      refine a_callV (b := 130) (As := [.int (nI (mv.2.1 k)), .int (nI (mv.2.1 k - dkN a b k)), .int (htN m a b mv B0 k)]) (st := []) (ci := 0) F (c_0_unmove (xl X) hP I1 A1 J1 hB 130 rfl (hB _ (by decide)) (hB _ (by decide)) (mv.2.1 k) (dkN a b k) m (nbB m a b mv.2.1 B0 k) ok.2.1 q2 (dk1 k).1 hm (by rw [i1 130 1 (by omega)]; exact hI) b1 okb ok.2.2) ml_6_81 im_yX0_unmove se_yX0_unmove (by decide) (by decide) rfl (hB _ (by decide)) rfl rfl dX6_numberBy_156 (by decide) (Nat.le_refl 0) (Nat.le_refl 0) (hl_r (hB _ (by decide)) (hl_r (hB _ (by decide)) (hl_i (hl_i (hl_i (hl_i (hl_i (hl_i (hl_i hl_nil))))))))) hs_nil ?_
      rintro _ _ _ ⟨r1, rfl, rfl, rfl, b2⟩ _
      refine r_6_numberBy_159 F hP hB k1 k2 t3 k3 k4 t4 ?_
      refine ih x4 x5 x6 x7 _ I1 (up1 A1 131 r1) J1 (by omega) (by omega) ?_ (fun j hj => ho j (by omega)) i1 (fun q h h2 => by rw [up1_p h2]; exact a1 q h h2) (by rw [up1_s]; exact b2) (fun j hj => by rw [up1_p (by decide)]; exact h1 j (by omega)) fin
      by_cases c : k = 0
      · left; subst c; exact ⟨rfl, by decide⟩
      · right; refine ⟨by omega, ?_⟩
        have := nI_m1 (k - 1)
        rw [show k - 1 + 1 = k by omega] at this; exact this
  -- what has gone
  have out : ∀ k (x4 : Int32) (A1 : Nat → Nat → Int32), k ≤ 4 → k ≤ n → n ≤ (if a = b then 4 else 2) → (∀ j, j < k → okM m a b mv B0 j) → (k = n ∨ ¬ okM m a b mv B0 k) → (∀ q, q ≠ 112 → q ≠ 131 → A1 q = A q) → bdR (A1 131) 0 (nbB m a b mv.2.1 B0 k) → (∀ j, j < k → A1 112 j = htN m a b mv B0 j) → WA X (mC P O I A1 J) pl 0 0 61 [(0, .ref 110), (1, .ref 106), (2, .int (nI a)), (3, .int (nI b)), (4, .int x4), (5, .int (nI k))] [] := by
    intro k x4 A1 k9 kn nm ho he a1 b1 h1
    have bad : ∀ (x7 : Int32), (¬ goodM m a b mv B0 τ.1) → WA X (mC P O I A1 J) pl 0 0 120 [(0, .ref 110), (1, .ref 106), (2, .int (nI a)), (3, .int (nI b)), (4, .int x4), (5, .int (nI k)), (6, .int (-1)), (7, .int x7)] [] := fun x7 ng => by
      refine r_6_numberBy_120 F hP hB k1 k2 t3 k3 k4 t4 ?_
      refine un k x4 _ _ x7 _ I A1 J k9 kn ?_ ho (fun _ _ _ => rfl) a1 b1 h1 (fun A2 a2 b2 => ⟨rfl, I, A2, J, rfl, fun _ _ _ => rfl, a2, fun _ _ => rfl, b2, fun _ => rfl, fun h => absurd h ng⟩)
      by_cases c : k = 0
      · left; subst c; exact ⟨rfl, by decide⟩
      · right; exact ⟨by omega, pk_sub (b := 1) (by omega)⟩
    have go : ∀ v, v = (if k = 1 ∧ b < a then 1 else 0) → WA X (mC P O I A1 J) pl 0 0 82 [(0, .ref 110), (1, .ref 106), (2, .int (nI a)), (3, .int (nI b)), (4, .int x4), (5, .int (nI k)), (6, .int (-1)), (7, .int (nI v))] [] := fun v hv => by
      have v1 : v ≤ 1 := by rw [hv]; split <;> omega
      have e1 : nI k = I 106 5 ↔ k = n := by rw [m5]; exact nI_eq (by omega) (by omega)
      have e2 : 2 * nI k + nI v = I 110 5 ↔ 2 * k + v = τ.1 := by rw [t5, show (2 : Int32) * nI k = nI (2 * k) from (Int32.ofNat_mul 2 k).symm, nI_add]; exact nI_eq (by omega) (by omega)
      refine r_6_numberBy_82 F hP hB k1 k2 t3 k3 k4 t4 (fun z => bad _ (fun h => ?_)) (fun z w => bad _ (fun h => ?_)) (fun z w => ?_)
      · have := mt e1.mpr z
        rcases he with c | c
        · exact this c
        · exact c (h.2.1 k (by omega))
      · have z := e1.mp z
        refine w (e2.mpr ?_)
        have := h.2.2
        rw [hn, ← z, ← hv] at this; exact this
      · have z := e1.mp z
        have w := e2.mp w
        subst z
        have gd : goodM m a b mv B0 τ.1 := ⟨by rw [hn]; exact nm, by rw [hn]; exact ho, by rw [hn, ← hv]; exact w⟩
        have okb := nb_ok hm ha.1 hb9.1 (fun j hj => (mr j (by omega)).2.1) hok (k := k) ho
        have tA : A1 (301 + 2 * τ.2.2.2.2) = A (301 + 2 * τ.2.2.2.2) := a1 _ (by omega) (by omega)
        refine a_callV (b := 110) (As := []) (st := []) (ci := 6) F (c_6_makeKey (xl X) hP I A1 J hB k1 k2 t3 k3 k4 t4 m (nbB m a b mv.2.1 B0 k) hm t6 b1 (okB_dg okb)) ml_6_89 im_yX6_makeKey se_yX6_makeKey (by decide) (by decide) rfl (hB _ (by decide)) rfl rfl dX6_numberBy_106 (by decide) (Nat.le_refl 0) (Nat.le_refl 0) (hl_r (hB _ (by decide)) (hl_r (hB _ (by decide)) (hl_i (hl_i (hl_i (hl_i (hl_i (hl_i hl_nil)))))))) hs_nil ?_
        rintro _ _ _ ⟨rfl, rfl, J1, rfl, j1, j2⟩ _
        refine r_6_numberBy_109 F hP hB k1 k2 t3 k3 k4 t4 ?_
        refine a_callV (b := 110) (As := []) (st := []) (ci := 6) F (c_6_placeOfKey (xl X) hP I A1 J1 hB k1 k2 t3 k3 k4 t4 m τ.2.1 o τ.2.2.1 τ.2.2.2.1 (nbB m a b mv.2.1 B0 k) hm (by omega) (by omega) (by omega) t7 (by rw [tA, j1 _ (by omega)]; exact tr) ts (okB_dg okb) j2) ml_6_92 im_yX6_placeOfKey se_yX6_placeOfKey (by decide) (by decide) rfl (hB _ (by decide)) rfl rfl dX6_numberBy_110 (by decide) (Nat.le_refl 0) (Nat.le_refl 0) (hl_r (hB _ (by decide)) (hl_r (hB _ (by decide)) (hl_i (hl_i (hl_i (hl_i (hl_i (hl_i hl_nil)))))))) hs_nil ?_
        rintro _ _ _ ⟨rfl, rfl, p, rfl, hp⟩ _
        have ep := pN_is hp
        refine r_6_numberBy_113 F hP hB k1 k2 t3 k3 k4 t4 ?_
        refine a_callV (b := 110) (As := [.ref 106]) (st := []) (ci := 6) F (c_6_compareStars (xl X) hP I A1 J1 hB k1 k2 t3 k3 k4 t4 k (by omega) m5) ml_6_141 im_yX6_compareStars se_yX6_compareStars (by decide) (by decide) rfl (hB _ (by decide)) rfl rfl dX6_numberBy_117 (by decide) (Nat.le_refl 0) (Nat.le_refl 0) (hl_i (hl_r (hB _ (by decide)) (hl_r (hB _ (by decide)) (hl_i (hl_i (hl_i (hl_i (hl_i hl_nil)))))))) hs_nil ?_
        rintro _ _ _ ⟨rfl, rfl, rfl⟩ _
        refine a_sub [1, 2, 3, 4, 5, 6, 0, 7] rfl ?_
        refine r_6_numberBy_120 F hP hB k1 k2 t3 k3 k4 t4 ?_
        refine un k x4 _ _ _ _ _ A1 J1 k9 (Nat.le_refl _) ?_ ho (fun q j h => ?_) a1 b1 h1 (fun A2 a2 b2 => ⟨rfl, _, A2, J1, rfl, fun q j h => ?_, a2, j1, b2, fun h => absurd gd h, fun _ => ⟨?_, ?_⟩⟩)
        · by_cases c : k = 0
          · left; subst c; exact ⟨rfl, by decide⟩
          · right; exact ⟨by omega, pk_sub (b := 1) (by omega)⟩
        · by_cases c : q = 110
          · subst c; exact up2_k (fun z => h ⟨rfl, z⟩)
          · exact up2_p c
        · by_cases c : q = 110
          · subst c; exact up2_k (fun z => h ⟨rfl, z⟩)
          · exact up2_p c
        · rw [hn, ep]
        · rw [up2_s, hn]
          have : (∀ j, j < k → A1 109 j = A1 112 j) = (∀ j, j < k → A 109 j = htN m a b mv B0 j) := propext ⟨fun h j hj => by rw [← a1 109 (by decide) (by decide), h j hj, h1 j hj], fun h j hj => by rw [a1 109 (by decide) (by decide), h j hj, h1 j hj]⟩
          rw [this]
    have c1 : nI k = 1 ↔ k = 1 := nI_eq (b := 1) (by omega) (by omega)
    refine r_6_numberBy_61 F hP hB k1 k2 t3 k3 k4 t4 (fun z => go 0 ?_) (fun z w => go 0 ?_) (fun z w => go 1 ?_)
    · rw [if_neg (fun h => z (c1.mpr h.1))]
    · rw [if_neg (fun h => by have := leb.mp w; omega)]
    · rw [if_pos ⟨c1.mp z, by have := mt leb.mpr w; omega⟩]
  have lp : ∀ f k (x4 : Int32) (A1 : Nat → Nat → Int32), k + f = n → n ≤ 4 → n ≤ (if a = b then 4 else 2) → (∀ j, j < k → okM m a b mv B0 j) → (∀ q, q ≠ 112 → q ≠ 131 → A1 q = A q) → bdR (A1 131) 0 (nbB m a b mv.2.1 B0 k) → (∀ j, j < k → A1 112 j = htN m a b mv B0 j) → WA X (mC P O I A1 J) pl 0 0 26 [(0, .ref 110), (1, .ref 106), (2, .int (nI a)), (3, .int (nI b)), (4, .int x4), (5, .int (nI k))] [] := by
    intro f
    induction f with
    | zero =>
      intro k x4 A1 hk n4 nm ho a1 b1 h1
      have z : I 106 5 ≤ nI k := by rw [m5, show k = n by omega]; exact Int32.le_refl _
      exact r_6_numberBy_26 F hP hB k1 k2 t3 k3 k4 t4 (fun _ => out k x4 A1 (by omega) (by omega) nm ho (Or.inl (by omega)) a1 b1 h1) (fun y => absurd z y) (fun y => absurd z y)
    | succ f ih =>
      intro k x4 A1 hk n4 nm ho a1 b1 h1
      have z : ¬ I 106 5 ≤ nI k := by rw [m5]; exact fun y => by have := (nI_leI (by omega) (by omega)).mp y; omega
      obtain ⟨q1, q2, q3, q4, -⟩ := mr k (by omega)
      have okb := nb_ok hm ha.1 hb9.1 (fun j hj => (mr j (by omega)).2.1) hok (k := k) ho
      have cal : ∀ x, x = nI (dkN a b k) → WA X (mC P O I A1 J) pl 0 0 49 [(0, .ref 110), (1, .ref 106), (2, .int (nI a)), (3, .int (nI b)), (4, .int x4), (5, .int (nI k))] [.int x, .int (nI k), .ref 106, .ref 110] := fun x hx => by
        rw [hx]
        refine a_callV (b := 110) (As := [.ref 106, .int (nI k), .int (nI (dkN a b k))]) (st := []) (ci := 6) F (c_6_goAsTold (xl X) hP I A1 J hB k1 k2 t3 k3 k4 t4 m k (dkN a b k) (mv.2.1 k) (mv.2.2.1 k) (nbB m a b mv.2.1 B0 k) hm (by omega) (dk1 k).1 (dk1 k).2 q2 q4 (by rw [a1 107 (by decide) (by decide)]; exact q1) (by rw [a1 108 (by decide) (by decide)]; exact q3) b1 okb hI) ml_6_137 im_yX6_goAsTold se_yX6_goAsTold (by decide) (by decide) rfl (hB _ (by decide)) rfl rfl dX6_numberBy_49 (by decide) (Nat.le_refl 0) (Nat.le_refl 0) (hl_r (hB _ (by decide)) (hl_r (hB _ (by decide)) (hl_i (hl_i (hl_i (hl_i hl_nil)))))) hs_nil ?_
        rintro r _ _ ⟨rfl, hy, hno⟩ _
        by_cases c : okM m a b mv B0 k
        · obtain ⟨rfl, r1, rfl, b2⟩ := hy c
          refine r_6_numberBy_52 F hP hB k1 k2 t3 k3 k4 t4 (fun y => absurd y (by decide)) (fun _ => ?_)
          rw [nI_1]
          refine ih (k + 1) x4 _ (by omega) n4 nm (fun j hj => ?_) (fun q h h2 => by rw [up1_p h, up1_p h2]; exact a1 q h h2) (by rw [up1_p (by decide), up1_s]; exact b2) (fun j hj => ?_)
          · by_cases e : j = k
            · rw [e]; exact c
            · exact ho j (by omega)
          · rw [up1_s]
            by_cases e : j = k
            · rw [e, upd_in]; rfl
            · rw [upd_out e]; exact h1 j (by omega)
        · obtain ⟨rfl, rfl⟩ := hno c
          exact r_6_numberBy_52 F hP hB k1 k2 t3 k3 k4 t4 (fun _ => out k x4 A1 (by omega) (by omega) nm ho (Or.inr c) a1 b1 h1) (fun y => absurd rfl y)
      have ck : nI k = 0 ↔ k = 0 := nI_z (by omega)
      refine r_6_numberBy_26 F hP hB k1 k2 t3 k3 k4 t4 (fun y => absurd y z) (fun _ y => cal _ ?_) (fun _ y => cal _ ?_)
      · unfold dkN; rw [if_neg (fun h => y (ck.mpr h))]
      · unfold dkN; rw [if_pos (ck.mp y)]
  have no : ∀ c, (if a = b then 4 else 2) = c → ¬ n ≤ c → nyQ P O I A J pl m a b mv B0 τ (some (.int (-1))) (mC P O I A J) pl := fun c hc h => ⟨rfl, I, A, J, rfl, fun _ _ _ => rfl, fun _ _ _ => rfl, fun _ _ => rfl, hb, fun _ => rfl, fun y => absurd (by have := y.1; rw [hn, hc] at this; exact this) h⟩
  have l2 : I 106 5 ≤ 2 ↔ n ≤ 2 := by rw [m5]; exact nI_len 2 (by omega) (by omega)
  have l4 : I 106 5 ≤ 4 ↔ n ≤ 4 := by rw [m5]; exact nI_len 4 (by omega) (by omega)
  refine r_6_numberBy_0 F E hP hB k1 k2 t3 k3 k4 t4 (fun z w => ?_) (fun z w => ?_) (fun z w => ?_) (fun z w => ?_)
  · have ne : a ≠ b := fun h => z (cab.mpr h)
    have w := l2.mp w
    exact lp n 0 _ A (by omega) (by omega) (by rw [if_neg ne]; exact w) (fun j hj => by omega) (fun _ _ _ => rfl) hb (fun j hj => by omega)
  · have ne : a ≠ b := fun h => z (cab.mpr h)
    exact no 2 (if_neg ne) (mt l2.mpr w)
  · have e := cab.mp z
    have w := l4.mp w
    exact lp n 0 _ A (by omega) (by omega) (by rw [if_pos e]; exact w) (fun j hj => by omega) (fun _ _ _ => rfl) hb (fun j hj => by omega)
  · exact no 4 (if_pos (cab.mp z)) (mt l4.mpr w)
