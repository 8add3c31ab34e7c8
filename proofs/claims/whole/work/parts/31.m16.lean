def sumB (B : Nat → Nat) (o : Nat) : Nat → Nat
  | 0 => 0
  | n + 1 => sumB B o n + B (o + n)
theorem su_out {B : Nat → Nat} {o q v : Nat} : ∀ n, q < o ∨ o + n ≤ q → sumB (va_up B q v) o n = sumB B o n
  | 0, _ => rfl
  | n + 1, h => by
    simp only [sumB]; rw [su_out n (by omega)]; simp only [va_up]; rw [if_neg (by omega)]
theorem su_in {B : Nat → Nat} {o j v : Nat} : ∀ n, j < n → sumB (va_up B (o + j) v) o n + B (o + j) = sumB B o n + v
  | 0, h => by omega
  | n + 1, h => by
    simp only [sumB]
    rcases Nat.lt_or_ge j n with h2 | h2
    · have := su_in (B := B) (o := o) (v := v) n h2
      simp only [va_up] at this ⊢; rw [if_neg (show ¬ o + n = o + j by omega)]; omega
    · obtain rfl : j = n := by omega
      rw [su_out j (by omega)]; simp only [va_up, if_true]; omega
theorem su_le {B : Nat → Nat} {o j : Nat} : ∀ n, j < n → B (o + j) ≤ sumB B o n
  | 0, h => by omega
  | n + 1, h => by
    simp only [sumB]
    rcases Nat.lt_or_ge j n with h2 | h2
    · have := su_le (B := B) (o := o) n h2; omega
    · obtain rfl : j = n := by omega
      omega
/-- fifteen men each -/
def okB (B : Nat → Nat) : Prop := sumB B 0 26 = 15 ∧ sumB B 26 26 = 15
theorem okB_le {B : Nat → Nat} (h : okB B) {k : Nat} (hk : k < 52) : B k ≤ 15 := by
  rcases Nat.lt_or_ge k 26 with h2 | h2
  · have := su_le (B := B) (o := 0) 26 h2; rw [Nat.zero_add] at this; have := h.1; omega
  · have := su_le (B := B) (o := 26) (j := k - 26) 26 (by omega); rw [show 26 + (k - 26) = k by omega] at this; have := h.2; omega
def mv1 (B : Nat → Nat) (m p d : Nat) : Nat → Nat := va_up (va_up B (26 * m + p) (B (26 * m + p) - 1)) (26 * m + (p - d)) (va_up B (26 * m + p) (B (26 * m + p) - 1) (26 * m + (p - d)) + 1)
def hitP (B : Nat → Nat) (m p d : Nat) : Prop := d < p ∧ ¬ B (26 * (1 - m) + (25 - (p - d))) = 0
/-- the board behind a move -/
noncomputable def mvB (B : Nat → Nat) (m p d : Nat) : Nat → Nat := if d < p ∧ ¬ B (26 * (1 - m) + (25 - (p - d))) = 0 then va_up (va_up (mv1 B m p d) (26 * (1 - m) + (25 - (p - d))) 0) (26 * (1 - m) + 25) (B (26 * (1 - m) + 25) + 1) else mv1 B m p d
theorem mv1_ok {B : Nat → Nat} {m p d o : Nat} (hm : m ≤ 1) (hp : p ≤ 25) (hB : ¬ B (26 * m + p) = 0) (ho : o = 0 ∨ o = 26) : sumB (mv1 B m p d) o 26 = sumB B o 26 := by
  unfold mv1
  by_cases e : o = 26 * m
  · subst e
    have h1 := su_in (B := B) (o := 26 * m) (j := p) (v := B (26 * m + p) - 1) 26 (by omega)
    have h2 := su_in (B := va_up B (26 * m + p) (B (26 * m + p) - 1)) (o := 26 * m) (j := p - d) (v := va_up B (26 * m + p) (B (26 * m + p) - 1) (26 * m + (p - d)) + 1) 26 (by omega)
    omega
  · rw [su_out 26 (by omega), su_out 26 (by omega)]
theorem mvB_ok {B : Nat → Nat} {m p d : Nat} (h : okB B) (hm : m ≤ 1) (hp1 : 1 ≤ p) (hp : p ≤ 25) (hd : 1 ≤ d) (hc : cmP B m p d) : okB (mvB B m p d) := by
  have h1 : ∀ o, o = 0 ∨ o = 26 → sumB (mvB B m p d) o 26 = sumB B o 26 := by
    intro o ho
    unfold mvB
    by_cases hh : d < p ∧ ¬ B (26 * (1 - m) + (25 - (p - d))) = 0
    · rw [if_pos hh]
      have hb : B (26 * (1 - m) + (25 - (p - d))) = 1 := by have := hc.2.2; rw [if_pos hh.1] at this; omega
      have hm1 : mv1 B m p d (26 * (1 - m) + (25 - (p - d))) = 1 := by unfold mv1; simp only [va_up]; rw [if_neg (by omega), if_neg (by omega)]; exact hb
      have hm2 : mv1 B m p d (26 * (1 - m) + 25) = B (26 * (1 - m) + 25) := by unfold mv1; simp only [va_up]; rw [if_neg (by omega), if_neg (by omega)]
      by_cases e : o = 26 * (1 - m)
      · subst e
        have g1 := su_in (B := mv1 B m p d) (o := 26 * (1 - m)) (j := 25 - (p - d)) (v := 0) 26 (by omega)
        have g2 := su_in (B := va_up (mv1 B m p d) (26 * (1 - m) + (25 - (p - d))) 0) (o := 26 * (1 - m)) (j := 25) (v := B (26 * (1 - m) + 25) + 1) 26 (by omega)
        have g3 : va_up (mv1 B m p d) (26 * (1 - m) + (25 - (p - d))) 0 (26 * (1 - m) + 25) = B (26 * (1 - m) + 25) := by simp only [va_up]; rw [if_neg (by omega)]; exact hm2
        have g4 := mv1_ok (d := d) hm hp hc.1 ho
        rw [g3] at g2; rw [hm1] at g1; omega
      · rw [su_out 26 (by omega), su_out 26 (by omega)]; exact mv1_ok hm hp hc.1 ho
    · rw [if_neg hh]; exact mv1_ok hm hp hc.1 ho
  exact ⟨(h1 0 (Or.inl rfl)).trans h.1, (h1 26 (Or.inr rfl)).trans h.2⟩

theorem bdR_up {r : Nat → Int32} {o : Nat} {B : Nat → Nat} (h : bdR r o B) {k v : Nat} (hv : v ≤ 30) : bdR (upd r (o + k) (nI v)) o (va_up B k v) := fun j hj => by
  by_cases e : j = k
  · subst e; rw [upd_in]; simp only [va_up, if_true]; exact ⟨trivial, hv⟩
  · rw [upd_out (by omega)]; simp only [va_up, if_neg e]; exact h j hj

theorem r_12_move_0 {X : Ctx} (F : Fx X cX12_move RX12 7 1 0 0) {I A : Nat → Nat → Int32} {J : Nat → Nat → Int64} {x1 x2 x3 : Int32}
    (e_1 : WA X (mS I A J) plM 0 0 3 [(0, .ref 0), (1, .int x1), (2, .int x2), (3, .int x3), (4, .int 0)] []) :
    WA X (mS I A J) plM 0 0 0 [(0, .ref 0), (1, .int x1), (2, .int x2), (3, .int x3)] [] := by
  refine a_iconst (v := 0) F dX12_move_0 (by decide) ?_
  refine a_istore F dX12_move_1 (by decide) rfl ?_
  refine a_sub [1, 2, 3, 4, 0] rfl ?_
  exact e_1

theorem r_12_move_3 {X : Ctx} (F : Fx X cX12_move RX12 7 1 0 0) {I A : Nat → Nat → Int32} {J : Nat → Nat → Int64} {x1 x2 x3 x4 : Int32}
    (e_1 : (52 ≤ x4) → WA X (mS I A J) plM 0 0 90 [(0, .ref 0), (1, .int x1), (2, .int x2), (3, .int x3), (4, .int ((52 * (x1 + 1)) + (26 * (I 0 8)))), (5, .int ((52 * (x1 + 1)) + (26 * (1 - (I 0 8))))), (6, .int (if x2 ≤ x3 then 0 else (x2 - x3)))] [])
    (o_2 : (¬ (52 ≤ x4)) → vp_in ((52 * x1) + x4) 468)
    (o_3 : (¬ (52 ≤ x4)) → vp_in ((52 * (x1 + 1)) + x4) 468)
    (e_4 : (¬ (52 ≤ x4)) → WA X (mS I (up1 A 3 (upd (A 3) ((52 * (x1 + 1)) + x4).toNatClampNeg (A 3 ((52 * x1) + x4).toNatClampNeg))) J) plM 0 0 3 [(0, .ref 0), (1, .int x1), (2, .int x2), (3, .int x3), (4, .int (x4 + 1))] []) :
    WA X (mS I A J) plM 0 0 3 [(0, .ref 0), (1, .int x1), (2, .int x2), (3, .int x3), (4, .int x4)] [] := by
  refine a_iload F 4 dX12_move_3 rfl ?_
  refine a_bipush (v := 52) F dX12_move_5 (by decide) ?_
  refine a_icmp_ge (tgt := 42) F dX12_move_7 (by decide) (fun (c_1 : 52 ≤ x4) => ?_) (fun (c_1 : ¬ (52 ≤ x4)) => ?_)
  · refine a_bipush (v := 52) F dX12_move_42 (by decide) ?_
    refine a_iload_n F 1 dX12_move_44 rfl rfl ?_
    refine a_iconst (v := 1) F dX12_move_45 (by decide) ?_
    refine a_iadd F dX12_move_46 ?_
    refine a_imul F dX12_move_47 ?_
    refine a_bipush (v := 26) F dX12_move_48 (by decide) ?_
    refine a_aload_n F 0 dX12_move_50 rfl rfl ?_
    refine a_geti F fl_12_176 rfl (by decide) rfl dX12_move_51 ?_
    refine a_imul F dX12_move_54 ?_
    refine a_iadd F dX12_move_55 ?_
    refine a_istore F dX12_move_56 (by decide) rfl ?_
    refine a_bipush (v := 52) F dX12_move_58 (by decide) ?_
    refine a_iload_n F 2 dX12_move_60 rfl rfl ?_
    refine a_iconst (v := 1) F dX12_move_61 (by decide) ?_
    refine a_iadd F dX12_move_62 ?_
    refine a_imul F dX12_move_63 ?_
    refine a_bipush (v := 26) F dX12_move_64 (by decide) ?_
    refine a_iconst (v := 1) F dX12_move_66 (by decide) ?_
    refine a_aload_n F 1 dX12_move_67 rfl rfl ?_
    refine a_geti F fl_12_176 rfl (by decide) rfl dX12_move_68 ?_
    refine a_isub F dX12_move_71 ?_
    refine a_imul F dX12_move_72 ?_
    refine a_iadd F dX12_move_73 ?_
    refine a_istore F dX12_move_74 (by decide) rfl ?_
    refine a_iload_n F 4 dX12_move_76 rfl rfl ?_
    refine a_iload_n F 5 dX12_move_77 rfl rfl ?_
    suffices k : ∀ z9 : Int32, z9 = (if x2 ≤ x3 then 0 else (x2 - x3)) → WA X (mS I A J) plM 0 0 88 [(5, .int ((52 * (x1 + 1)) + (26 * (1 - (I 0 8))))), (4, .int ((52 * (x1 + 1)) + (26 * (I 0 8)))), (0, .ref 0), (1, .int x1), (2, .int x2), (3, .int x3)] [.int z9] by
      refine a_icmp_le (tgt := 87) F dX12_move_78 (by decide) (fun (c_2 : x2 ≤ x3) => ?_) (fun (c_2 : ¬ (x2 ≤ x3)) => ?_)
      · refine a_iconst (v := 0) F dX12_move_87 (by decide) ?_
        exact k _ (by rw [if_pos c_2] <;> rfl)
      · refine a_iload_n F 4 dX12_move_81 rfl rfl ?_
        refine a_iload_n F 5 dX12_move_82 rfl rfl ?_
        refine a_isub F dX12_move_83 ?_
        refine a_goto (tgt := 88) F dX12_move_84 (by decide) ?_
        exact k _ (by rw [if_neg c_2] <;> rfl)
    rintro _ rfl
    refine a_istore F dX12_move_88 (by decide) rfl ?_
    refine a_sub [3, 4, 5, 6, 2, 1, 0] rfl ?_
    exact e_1 c_1
  · refine a_aload_n F 0 dX12_move_10 rfl rfl ?_
    refine a_getr (b := 3) F fl_12_17 rfl (by decide) rfl rfl dX12_move_11 ?_
    refine a_bipush (v := 52) F dX12_move_14 (by decide) ?_
    refine a_iload_n F 1 dX12_move_16 rfl rfl ?_
    refine a_iconst (v := 1) F dX12_move_17 (by decide) ?_
    refine a_iadd F dX12_move_18 ?_
    refine a_imul F dX12_move_19 ?_
    refine a_iload F 4 dX12_move_20 rfl ?_
    refine a_iadd F dX12_move_22 ?_
    refine a_aload_n F 0 dX12_move_23 rfl rfl ?_
    refine a_getr (b := 3) F fl_12_17 rfl (by decide) rfl rfl dX12_move_24 ?_
    refine a_bipush (v := 52) F dX12_move_27 (by decide) ?_
    refine a_iload_n F 1 dX12_move_29 rfl rfl ?_
    refine a_imul F dX12_move_30 ?_
    refine a_iload F 4 dX12_move_31 rfl ?_
    refine a_iadd F dX12_move_33 ?_
    refine a_iald F (by decide) rfl (o_2 c_1) dX12_move_34 ?_
    refine a_iast F (by decide) rfl (o_3 c_1) dX12_move_35 ?_
    refine a_iinc (v := x4 + 1) F 4 dX12_move_36 rfl rfl (by decide) rfl ?_
    refine a_goto (tgt := 3) F dX12_move_39 (by decide) ?_
    refine a_sub [1, 2, 3, 4, 0] rfl ?_
    exact e_4 c_1

theorem r_12_move_90 {X : Ctx} (F : Fx X cX12_move RX12 7 1 0 0) {I A : Nat → Nat → Int32} {J : Nat → Nat → Int64} {x1 x2 x3 x4 x5 x6 : Int32}
    (o_1 : vp_in (x4 + x2) 468)
    (o_2 : vp_in (x4 + x2) 468)
    (e_3 : WA X (mS I (up1 A 3 (upd (A 3) (x4 + x2).toNatClampNeg ((A 3 (x4 + x2).toNatClampNeg) - 1))) J) plM 0 0 103 [(0, .ref 0), (1, .int x1), (2, .int x2), (3, .int x3), (4, .int x4), (5, .int x5), (6, .int x6)] []) :
    WA X (mS I A J) plM 0 0 90 [(0, .ref 0), (1, .int x1), (2, .int x2), (3, .int x3), (4, .int x4), (5, .int x5), (6, .int x6)] [] := by
  refine a_aload_n F 0 dX12_move_90 rfl rfl ?_
  refine a_getr (b := 3) F fl_12_17 rfl (by decide) rfl rfl dX12_move_91 ?_
  refine a_iload F 4 dX12_move_94 rfl ?_
  refine a_iload_n F 2 dX12_move_96 rfl rfl ?_
  refine a_iadd F dX12_move_97 ?_
  refine a_dup2 F dX12_move_98 rfl rfl ?_
  refine a_iald F (by decide) rfl (o_1) dX12_move_99 ?_
  refine a_iconst (v := 1) F dX12_move_100 (by decide) ?_
  refine a_isub F dX12_move_101 ?_
  refine a_iast F (by decide) rfl (o_2) dX12_move_102 ?_
  exact e_3

theorem r_12_move_103 {X : Ctx} (F : Fx X cX12_move RX12 7 1 0 0) {I A : Nat → Nat → Int32} {J : Nat → Nat → Int64} {x1 x2 x3 x4 x5 x6 : Int32}
    (o_1 : vp_in (x4 + x6) 468)
    (o_2 : vp_in (x4 + x6) 468)
    (e_3 : WA X (mS I (up1 A 3 (upd (A 3) (x4 + x6).toNatClampNeg ((A 3 (x4 + x6).toNatClampNeg) + 1))) J) plM 0 0 117 [(0, .ref 0), (1, .int x1), (2, .int x2), (3, .int x3), (4, .int x4), (5, .int x5), (6, .int x6)] []) :
    WA X (mS I A J) plM 0 0 103 [(0, .ref 0), (1, .int x1), (2, .int x2), (3, .int x3), (4, .int x4), (5, .int x5), (6, .int x6)] [] := by
  refine a_aload_n F 0 dX12_move_103 rfl rfl ?_
  refine a_getr (b := 3) F fl_12_17 rfl (by decide) rfl rfl dX12_move_104 ?_
  refine a_iload F 4 dX12_move_107 rfl ?_
  refine a_iload F 6 dX12_move_109 rfl ?_
  refine a_iadd F dX12_move_111 ?_
  refine a_dup2 F dX12_move_112 rfl rfl ?_
  refine a_iald F (by decide) rfl (o_1) dX12_move_113 ?_
  refine a_iconst (v := 1) F dX12_move_114 (by decide) ?_
  refine a_iadd F dX12_move_115 ?_
  refine a_iast F (by decide) rfl (o_2) dX12_move_116 ?_
  exact e_3

theorem r_12_move_117 {X : Ctx} (F : Fx X cX12_move RX12 7 1 0 0) {Φ : Option Value → HS → List Nat → Prop} (E : Ex X (some .boolean) 0 0 Φ) {I A : Nat → Nat → Int32} {J : Nat → Nat → Int64} {x1 x2 x3 x4 x5 x6 : Int32}
    (e_1 : (x6 = 0) → Φ (some (.int 0)) (mS I A J) plM)
    (o_2 : (¬ (x6 = 0)) → vp_in ((x5 + 25) - x6) 468)
    (e_3 : (¬ (x6 = 0)) → (¬ (A 3 ((x5 + 25) - x6).toNatClampNeg) = 0) → WA X (mS I A J) plM 0 0 140 [(0, .ref 0), (1, .int x1), (2, .int x2), (3, .int x3), (4, .int x4), (5, .int x5), (6, .int x6)] [])
    (e_4 : (¬ (x6 = 0)) → ((A 3 ((x5 + 25) - x6).toNatClampNeg) = 0) → Φ (some (.int 0)) (mS I A J) plM) :
    WA X (mS I A J) plM 0 0 117 [(0, .ref 0), (1, .int x1), (2, .int x2), (3, .int x3), (4, .int x4), (5, .int x5), (6, .int x6)] [] := by
  refine a_iload F 6 dX12_move_117 rfl ?_
  refine a_if_eq (tgt := 138) F dX12_move_119 (by decide) (fun (c_3 : x6 = 0) => ?_) (fun (c_3 : ¬ (x6 = 0)) => ?_)
  · refine a_iconst (v := 0) F dX12_move_138 (by decide) ?_
    exact a_zret F E (by decide) dX12_move_139 (Nat.le_refl 0) (Nat.le_refl 0) (e_1 c_3)
  · refine a_aload_n F 0 dX12_move_122 rfl rfl ?_
    refine a_getr (b := 3) F fl_12_17 rfl (by decide) rfl rfl dX12_move_123 ?_
    refine a_iload F 5 dX12_move_126 rfl ?_
    refine a_bipush (v := 25) F dX12_move_128 (by decide) ?_
    refine a_iadd F dX12_move_130 ?_
    refine a_iload F 6 dX12_move_131 rfl ?_
    refine a_isub F dX12_move_133 ?_
    refine a_iald F (by decide) rfl (o_2 c_3) dX12_move_134 ?_
    refine a_if_ne (tgt := 140) F dX12_move_135 (by decide) (fun (c_4 : ¬ (A 3 ((x5 + 25) - x6).toNatClampNeg) = 0) => ?_) (fun (c_4 : (A 3 ((x5 + 25) - x6).toNatClampNeg) = 0) => ?_)
    · exact e_3 c_3 c_4
    · refine a_iconst (v := 0) F dX12_move_138 (by decide) ?_
      exact a_zret F E (by decide) dX12_move_139 (Nat.le_refl 0) (Nat.le_refl 0) (e_4 c_3 c_4)

theorem r_12_move_140 {X : Ctx} (F : Fx X cX12_move RX12 7 1 0 0) {Φ : Option Value → HS → List Nat → Prop} (E : Ex X (some .boolean) 0 0 Φ) {I A : Nat → Nat → Int32} {J : Nat → Nat → Int64} {x1 x2 x3 x4 x5 x6 : Int32}
    (o_1 : vp_in ((x5 + 25) - x6) 468)
    (o_2 : vp_in (x5 + 25) 468)
    (o_3 : vp_in (x5 + 25) 468)
    (e_4 : Φ (some (.int 1)) (mS I (up1 (up1 A 3 (upd (A 3) ((x5 + 25) - x6).toNatClampNeg 0)) 3 (upd (upd (A 3) ((x5 + 25) - x6).toNatClampNeg 0) (x5 + 25).toNatClampNeg (((upd (A 3) ((x5 + 25) - x6).toNatClampNeg 0) (x5 + 25).toNatClampNeg) + 1))) J) plM) :
    WA X (mS I A J) plM 0 0 140 [(0, .ref 0), (1, .int x1), (2, .int x2), (3, .int x3), (4, .int x4), (5, .int x5), (6, .int x6)] [] := by
  refine a_aload_n F 0 dX12_move_140 rfl rfl ?_
  refine a_getr (b := 3) F fl_12_17 rfl (by decide) rfl rfl dX12_move_141 ?_
  refine a_iload F 5 dX12_move_144 rfl ?_
  refine a_bipush (v := 25) F dX12_move_146 (by decide) ?_
  refine a_iadd F dX12_move_148 ?_
  refine a_iload F 6 dX12_move_149 rfl ?_
  refine a_isub F dX12_move_151 ?_
  refine a_iconst (v := 0) F dX12_move_152 (by decide) ?_
  refine a_iast F (by decide) rfl (o_1) dX12_move_153 ?_
  refine a_aload_n F 0 dX12_move_154 rfl rfl ?_
  refine a_getr (b := 3) F fl_12_17 rfl (by decide) rfl rfl dX12_move_155 ?_
  refine a_iload F 5 dX12_move_158 rfl ?_
  refine a_bipush (v := 25) F dX12_move_160 (by decide) ?_
  refine a_iadd F dX12_move_162 ?_
  refine a_dup2 F dX12_move_163 rfl rfl ?_
  refine a_iald F (by decide) rfl (o_2) dX12_move_164 ?_
  refine a_iconst (v := 1) F dX12_move_165 (by decide) ?_
  refine a_iadd F dX12_move_166 ?_
  refine a_iast F (by decide) rfl (o_3) dX12_move_167 ?_
  refine a_iconst (v := 1) F dX12_move_168 (by decide) ?_
  exact a_zret F E (by decide) dX12_move_169 (Nat.le_refl 0) (Nat.le_refl 0) (e_4)

set_option maxRecDepth 10000 in
theorem c_move (l : Launch) (I A : Nat → Nat → Int32) (J : Nat → Nat → Int64) (a m p d : Nat) (B : Nat → Nat) (ha : a ≤ 7) (hm : m ≤ 1) (h8 : I 0 8 = nI m) (hp1 : 1 ≤ p) (hp : p ≤ 25) (hd1 : 1 ≤ d) (hd : d ≤ 6) (hok : okB B) (hc : cmP B m p d) (hB : bdR (A 3) (52 * a) B) : Con l 1 yX12_move cX12_move 7 (some .boolean) [.ref 0, .int (nI a), .int (nI p), .int (nI d)] (mS I A J) plM 0 0 (fun r σ' pl' => ∃ r3, σ' = mS I (up1 A 3 r3) J ∧ pl' = plM ∧ (∀ k, k < 52 * (a + 1) ∨ 52 * (a + 2) ≤ k → r3 k = A 3 k) ∧ bdR r3 (52 * (a + 1)) (mvB B m p d) ∧ (hitP B m p d → r = some (.int 1)) ∧ (¬ hitP B m p d → r = some (.int 0))) := by
  refine Con.of (by decide) (Nat.le_of_ble_eq_true rfl) (fun X hX9 hn9 F E => ?_)
  have rd : ∀ k, k < 52 → (nI (52 * (a + 1) + k)).toNatClampNeg = 52 * (a + 1) + k := fun k hk => nI_clamp (by omega)
  have inr : ∀ k, k < 52 → vp_in (nI (52 * (a + 1) + k)) 468 := fun k hk => vp_in_nI (by omega) (by omega)
  have ea : nI a + 1 = nI (a + 1) := nI_1 a
  have eo : 52 * (nI a + 1) + 26 * I 0 8 = nI (52 * (a + 1) + 26 * m) := by rw [ea, h8, lit 52, lit 26, pk_mul, pk_mul, nI_add]
  have e1m : (1 : Int32) - I 0 8 = nI (1 - m) := by rw [h8]; exact pk_sub (a := 1) hm
  have ek : 52 * (nI a + 1) + 26 * (1 - I 0 8) = nI (52 * (a + 1) + 26 * (1 - m)) := by rw [ea, e1m, lit 52, lit 26, pk_mul, pk_mul, nI_add]
  have e6 : (if nI p ≤ nI d then (0 : Int32) else nI p - nI d) = nI (p - d) := by
    by_cases c : p ≤ d
    · rw [if_pos ((nI_leI (by omega) (by omega)).mpr c), show p - d = 0 by omega]; rfl
    · rw [if_neg (fun z => c ((nI_leI (by omega) (by omega)).mp z)), pk_sub (by omega)]
  have fB : ∀ k, k < 52 → B k ≤ 15 := fun k hk => okB_le hok hk
  have bp := hc.1
  have ew : ∀ k, nI (52 * (a + 1) + 26 * m) + nI k = nI (52 * (a + 1) + (26 * m + k)) := fun k => by rw [nI_add, Nat.add_assoc]
  have ef : nI (52 * (a + 1) + 26 * (1 - m)) + 25 = nI (52 * (a + 1) + (26 * (1 - m) + 25)) := by rw [lit 25, nI_add, Nat.add_assoc]
  have eg : nI (52 * (a + 1) + 26 * (1 - m)) + 25 - nI (p - d) = nI (52 * (a + 1) + (26 * (1 - m) + (25 - (p - d)))) := by rw [ef, pk_sub (by omega)]; congr 1; omega
  have l1 : mv1 B m p d (26 * (1 - m) + (25 - (p - d))) = B (26 * (1 - m) + (25 - (p - d))) := by unfold mv1; simp only [va_up]; rw [if_neg (by omega), if_neg (by omega)]
  have l2 : mv1 B m p d (26 * (1 - m) + 25) = B (26 * (1 - m) + 25) := by unfold mv1; simp only [va_up]; rw [if_neg (by omega), if_neg (by omega)]
  have tail : ∀ r3 : Nat → Int32, (∀ k, k < 52 * (a + 1) ∨ 52 * (a + 2) ≤ k → r3 k = A 3 k) → bdR r3 (52 * (a + 1)) B → WA X (mS I (up1 A 3 r3) J) plM 0 0 90 [(0, .ref 0), (1, .int (nI a)), (2, .int (nI p)), (3, .int (nI d)), (4, .int (nI (52 * (a + 1) + 26 * m))), (5, .int (nI (52 * (a + 1) + 26 * (1 - m)))), (6, .int (nI (p - d)))] [] := by
    intro r3 hf hr
    have i1 : vp_in (nI (52 * (a + 1) + 26 * m) + nI p) 468 := by rw [ew]; exact inr _ (by omega)
    refine r_12_move_90 F i1 i1 ?_
    rw [ew, rd _ (by omega), up1_s, up1_up1, (hr _ (by omega)).1, show nI (B (26 * m + p)) - 1 = nI (B (26 * m + p) - 1) from pk_sub (b := 1) (by omega)]
    have hr1 := bdR_up hr (k := 26 * m + p) (v := B (26 * m + p) - 1) (by have := fB (26 * m + p) (by omega); omega)
    have hf1 : ∀ k, k < 52 * (a + 1) ∨ 52 * (a + 2) ≤ k → upd r3 (52 * (a + 1) + (26 * m + p)) (nI (B (26 * m + p) - 1)) k = A 3 k := fun k hk => by rw [upd_out (by omega)]; exact hf k hk
    generalize upd r3 (52 * (a + 1) + (26 * m + p)) (nI (B (26 * m + p) - 1)) = r4 at hr1 hf1 ⊢
    have i2 : vp_in (nI (52 * (a + 1) + 26 * m) + nI (p - d)) 468 := by rw [ew]; exact inr _ (by omega)
    refine r_12_move_103 F i2 i2 ?_
    have hle : va_up B (26 * m + p) (B (26 * m + p) - 1) (26 * m + (p - d)) ≤ 15 := by
      simp only [va_up]; split
      · have := fB (26 * m + p) (by omega); omega
      · exact fB _ (by omega)
    rw [ew, rd _ (by omega), up1_s, up1_up1, (hr1 _ (by omega)).1, nI_1]
    have hr2 : bdR (upd r4 (52 * (a + 1) + (26 * m + (p - d))) (nI (va_up B (26 * m + p) (B (26 * m + p) - 1) (26 * m + (p - d)) + 1))) (52 * (a + 1)) (mv1 B m p d) := bdR_up hr1 (k := 26 * m + (p - d)) (v := va_up B (26 * m + p) (B (26 * m + p) - 1) (26 * m + (p - d)) + 1) (by omega)
    have hf2 : ∀ k, k < 52 * (a + 1) ∨ 52 * (a + 2) ≤ k → upd r4 (52 * (a + 1) + (26 * m + (p - d))) (nI (va_up B (26 * m + p) (B (26 * m + p) - 1) (26 * m + (p - d)) + 1)) k = A 3 k := fun k hk => by rw [upd_out (by omega)]; exact hf1 k hk
    generalize upd r4 (52 * (a + 1) + (26 * m + (p - d))) (nI (va_up B (26 * m + p) (B (26 * m + p) - 1) (26 * m + (p - d)) + 1)) = r5 at hr2 hf2 ⊢
    have zd : (nI (p - d) = 0) ↔ ¬ d < p := by rw [nI_z (by omega)]; omega
    have v5 : d < p → r5 (52 * (a + 1) + (26 * (1 - m) + (25 - (p - d)))) = nI (B (26 * (1 - m) + (25 - (p - d)))) := fun h => by rw [(hr2 _ (by omega)).1, l1]
    have zb : d < p → ((nI (B (26 * (1 - m) + (25 - (p - d)))) = 0) ↔ B (26 * (1 - m) + (25 - (p - d))) = 0) := fun h => nI_z (by have := fB (26 * (1 - m) + (25 - (p - d))) (by omega); omega)
    have no : ¬ hitP B m p d → mvB B m p d = mv1 B m p d := fun h => by unfold mvB; exact if_neg h
    refine r_12_move_117 F E ?_ ?_ ?_ ?_
    · rw [zd]; intro c
      have hn : ¬ hitP B m p d := fun h => c h.1
      exact ⟨r5, rfl, rfl, hf2, by rw [no hn]; exact hr2, fun h => absurd h hn, fun _ => rfl⟩
    · rw [zd, eg]; intro c; exact inr _ (by omega)
    · rw [zd, eg, rd _ (by omega), up1_s]; intro c c2
      have c := Classical.not_not.mp c
      rw [v5 c, zb c] at c2
      have hh : hitP B m p d := ⟨c, c2⟩
      refine r_12_move_140 F E (by rw [eg]; exact inr _ (by omega)) (by rw [ef]; exact inr _ (by omega)) (by rw [ef]; exact inr _ (by omega)) ?_
      rw [eg, ef, rd _ (by omega), rd _ (by omega), up1_s, up1_up1, up1_up1]
      rw [upd_out (by omega), (hr2 _ (by omega)).1, l2, nI_1]
      have hr3 := bdR_up (bdR_up hr2 (k := 26 * (1 - m) + (25 - (p - d))) (v := 0) (by omega)) (k := 26 * (1 - m) + 25) (v := B (26 * (1 - m) + 25) + 1) (by have := fB (26 * (1 - m) + 25) (by omega); omega)
      refine ⟨_, rfl, rfl, fun k hk => ?_, ?_, fun _ => rfl, fun h => absurd hh h⟩
      · rw [upd_out (by omega), upd_out (by omega)]; exact hf2 k hk
      · rw [show mvB B m p d = va_up (va_up (mv1 B m p d) (26 * (1 - m) + (25 - (p - d))) 0) (26 * (1 - m) + 25) (B (26 * (1 - m) + 25) + 1) by unfold mvB; exact if_pos hh]; exact hr3
    · rw [zd, eg, rd _ (by omega), up1_s]; intro c c2
      have c := Classical.not_not.mp c
      rw [v5 c, zb c] at c2
      have hn : ¬ hitP B m p d := fun h => h.2 c2
      exact ⟨r5, rfl, rfl, hf2, by rw [no hn]; exact hr2, fun h => absurd h hn, fun _ => rfl⟩
  have loop : ∀ f i, i + f = 52 → WA X (mS I (up1 A 3 (segF (A 3) (52 * (a + 1)) i (fun k => A 3 (52 * a + k)))) J) plM 0 0 3 [(0, .ref 0), (1, .int (nI a)), (2, .int (nI p)), (3, .int (nI d)), (4, .int (nI i))] [] := by
    intro f
    induction f with
    | zero =>
      intro i hi
      obtain rfl : i = 52 := by omega
      have h52 : (52 : Int32) ≤ nI 52 := nI_le (a := 52) (b := 52) (by omega) (by omega)
      refine r_12_move_3 F (fun _ => ?_) (fun h => absurd h52 h) (fun h => absurd h52 h) (fun h => absurd h52 h)
      rw [eo, ek, e6]
      exact tail _ (fun k hk => seg_out (by omega)) (fun k hk => by rw [seg_in hk]; exact hB k hk)
    | succ f ih =>
      intro i hi
      have h52 : ¬ (52 : Int32) ≤ nI i := nI_ge (b := 52) (by omega) (by omega)
      have e1 : 52 * nI a + nI i = nI (52 * a + i) := by rw [lit 52, pk_mul, nI_add]
      have e2 : 52 * (nI a + 1) + nI i = nI (52 * (a + 1) + i) := by rw [ea, lit 52, pk_mul, nI_add]
      refine r_12_move_3 F (fun h => absurd h h52) (fun _ => by rw [e1]; exact vp_in_nI (by omega) (by omega)) (fun _ => by rw [e2]; exact inr _ (by omega)) (fun _ => ?_)
      rw [e1, e2, rd _ (by omega), nI_clamp (by omega), nI_1, up1_s, up1_up1, seg_out (show 52 * a + i < 52 * (a + 1) ∨ 52 * (a + 1) + i ≤ 52 * a + i by omega), seg_s (g := fun k => A 3 (52 * a + k))]
      exact ih (i + 1) (by omega)
  refine r_12_move_0 F ?_
  have := loop 52 0 rfl
  rw [seg_0, up1_id] at this
  exact this
