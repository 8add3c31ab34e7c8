/-! the constructor of Stands -/
theorem nI_A (a b : Nat) : nI a + nI b = nI (a + b) := (Int32.ofNat_add a b).symm
theorem nI_T (a b : Nat) : nI a * nI b = nI (a * b) := (Int32.ofNat_mul a b).symm
theorem nI_S {a b : Nat} (h : b ≤ a) : nI a - nI b = nI (a - b) := by
  have : nI (a - b) + nI b = nI a := by rw [nI_A, Nat.sub_add_cancel h]
  rw [← this]; grind
def laS (P : Nat → Nat → Option Nat) : Prop := P 116 1 = some 118 ∧ P 116 2 = some 119 ∧ P 116 4 = some 144
def inS (pl : List Nat) : Prop := ∀ q, q ∈ [116, 118, 119, 144, 145] → q ∈ pl
def rk1 (m : Nat) : Nat → Int32 := fun j => if j < m then 1 else 0
def rkV (K M : Nat) : Nat → Int32 := fun j => if j / 16 < K ∨ (j / 16 = K ∧ j % 16 < M) then nI (rN (j / 16) (j % 16)) else 0
theorem rk1_s (m : Nat) : upd (rk1 m) m 1 = rk1 (m + 1) := by
  funext j
  unfold upd rk1
  by_cases c : j = m
  · rw [if_pos c, if_pos (by omega)]
  · rw [if_neg c]
    by_cases c2 : j < m
    · rw [if_pos c2, if_pos (by omega)]
    · rw [if_neg c2, if_neg (by omega)]
theorem rk1_e : rk1 16 = rkV 1 1 := by
  funext j
  unfold rk1 rkV
  by_cases c : j < 16
  · rw [if_pos c, if_pos (by omega), show j / 16 = 0 by omega]; rfl
  · rw [if_neg c]
    by_cases c2 : j / 16 = 1 ∧ j % 16 < 1
    · rw [if_pos (Or.inr c2), c2.1, show j % 16 = 0 by omega]; rfl
    · rw [if_neg (by omega)]
theorem rkV_s {K M : Nat} (hM : M < 16) : upd (rkV K M) (16 * K + M) (nI (rN K M)) = rkV K (M + 1) := by
  funext j
  unfold upd rkV
  by_cases c : j = 16 * K + M
  · rw [if_pos c, if_pos (by omega), show j / 16 = K by omega, show j % 16 = M by omega]
  · rw [if_neg c]
    by_cases h : j / 16 < K ∨ (j / 16 = K ∧ j % 16 < M)
    · rw [if_pos h, if_pos (by omega)]
    · rw [if_neg h, if_neg (by omega)]
theorem rkV_n (K : Nat) : rkV K 16 = rkV (K + 1) 1 := by
  funext j
  unfold rkV
  by_cases h : j / 16 < K ∨ (j / 16 = K ∧ j % 16 < 16)
  · rw [if_pos h, if_pos (by omega)]
  · rw [if_neg h]
    by_cases c2 : j / 16 = K + 1 ∧ j % 16 < 1
    · rw [if_pos (Or.inr c2), c2.1, show j % 16 = 0 by omega]; rfl
    · rw [if_neg (by omega)]
theorem rkV_T : rkT (rkV 7 1) := fun k hk m hm => by
  unfold rkV
  rw [if_pos (by omega), show (16 * k + m) / 16 = k by omega, show (16 * k + m) % 16 = m by omega]
theorem rkV_v {K M : Nat} (hK : 1 ≤ K) (hM : 1 ≤ M) (hM2 : M < 16) : rkV K M (16 * K + M - 1) + rkV K M (16 * (K - 1) + M) = nI (rN K M) := by
  obtain ⟨K, rfl⟩ : ∃ k, K = k + 1 := ⟨K - 1, by omega⟩
  obtain ⟨M, rfl⟩ : ∃ k, M = k + 1 := ⟨M - 1, by omega⟩
  unfold rkV
  rw [if_pos (by omega), if_pos (by omega), show (16 * (K + 1) + (M + 1) - 1) / 16 = K + 1 by omega, show (16 * (K + 1) + (M + 1) - 1) % 16 = M by omega, show (16 * (K + 1 - 1) + (M + 1)) / 16 = K by omega, show (16 * (K + 1 - 1) + (M + 1)) % 16 = M + 1 by omega, nI_A, rN_s]
def pwR (n : Nat) : Nat → Int64 := fun j => if j < n then lN (36 ^ j) else 0
theorem pwR_1 : vp_updL (fun _ => (0 : Int64)) 0 1 = pwR 1 := by
  funext j
  simp only [vp_updL, pwR]
  by_cases c : j = 0
  · subst c; rfl
  · rw [if_neg c, if_neg (by omega)]
theorem pwR_s {n : Nat} (h : 1 ≤ n) : vp_updL (pwR n) n (36 * pwR n (n - 1)) = pwR (n + 1) := by
  obtain ⟨n, rfl⟩ : ∃ k, n = k + 1 := ⟨n - 1, by omega⟩
  funext j
  simp only [vp_updL]
  by_cases c : j = n + 1
  · rw [if_pos c]
    unfold pwR
    rw [if_pos (by omega), if_pos (by omega), c, show (36 : Int64) = lN 36 from rfl, lN_t, Nat.add_sub_cancel, Nat.pow_succ, Nat.mul_comm]
  · rw [if_neg c]
    unfold pwR
    by_cases c2 : j < n + 1
    · rw [if_pos c2, if_pos (by omega)]
    · rw [if_neg c2, if_neg (by omega)]
theorem r_8_init_73 {X : Ctx} {mc ms k1 k2 : Nat} (F : Fx X cX8_init RX8 3 3 mc ms) (hk1 : k1 ≤ mc) (hk2 : k2 ≤ ms) {P O : Nat → Nat → Option Nat} (hP : laS P) {I A : Nat → Nat → Int32} {J : Nat → Nat → Int64} {pl : List Nat} (hB : inS pl) {x1 : Int32}
    (e_1 : (16 ≤ x1) → WA X (mC P O I A J) pl k1 k2 94 [(0, .ref 116), (1, .int 1)] [])
    (o_2 : (¬ (16 ≤ x1)) → vp_in x1 112)
    (e_3 : (¬ (16 ≤ x1)) → WA X (mC P O I (up1 A 118 (upd (A 118) x1.toNatClampNeg 1)) J) pl k1 k2 73 [(0, .ref 116), (1, .int (x1 + 1))] []) :
    WA X (mC P O I A J) pl k1 k2 73 [(0, .ref 116), (1, .int x1)] [] := by
  refine a_iload_n F 1 dX8_init_73 rfl rfl ?_
  refine a_bipush (v := 16) F dX8_init_74 (by decide) ?_
  refine a_icmp_ge (tgt := 92) F dX8_init_76 (by decide) (fun (c_1 : 16 ≤ x1) => ?_) (fun (c_1 : ¬ (16 ≤ x1)) => ?_)
  · refine a_iconst (v := 1) F dX8_init_92 (by decide) ?_
    refine a_istore_n F dX8_init_93 rfl (by decide) rfl ?_
    refine a_sub [1, 0] rfl ?_
    exact e_1 c_1
  · refine a_aload_n F 0 dX8_init_79 rfl rfl ?_
    refine a_getr (b := 118) F fl_8_17 rfl (hB _ (by decide)) rfl hP.1 dX8_init_80 ?_
    refine a_iload_n F 1 dX8_init_83 rfl rfl ?_
    refine a_iconst (v := 1) F dX8_init_84 (by decide) ?_
    refine a_iast F (hB _ (by decide)) rfl (o_2 c_1) dX8_init_85 ?_
    refine a_iinc (v := x1 + 1) F 1 dX8_init_86 rfl rfl (by decide) rfl ?_
    refine a_goto (tgt := 73) F dX8_init_89 (by decide) ?_
    refine a_sub [1, 0] rfl ?_
    exact e_3 c_1

theorem r_8_init_94 {X : Ctx} {mc ms k1 k2 : Nat} (F : Fx X cX8_init RX8 3 3 mc ms) (hk1 : k1 ≤ mc) (hk2 : k2 ≤ ms) {P O : Nat → Nat → Option Nat} (hP : laS P) {I A : Nat → Nat → Int32} {J : Nat → Nat → Int64} {pl : List Nat} (hB : inS pl) {x1 : Int32}
    (e_1 : (6 < x1) → WA X (mC P O I A J) pl k1 k2 158 [(0, .ref 116), (1, .int x1)] [])
    (e_2 : (¬ (6 < x1)) → WA X (mC P O I A J) pl k1 k2 102 [(0, .ref 116), (1, .int x1), (2, .int 1)] []) :
    WA X (mC P O I A J) pl k1 k2 94 [(0, .ref 116), (1, .int x1)] [] := by
  refine a_iload_n F 1 dX8_init_94 rfl rfl ?_
  refine a_bipush (v := 6) F dX8_init_95 (by decide) ?_
  refine a_icmp_gt (tgt := 158) F dX8_init_97 (by decide) (fun (c_2 : 6 < x1) => ?_) (fun (c_2 : ¬ (6 < x1)) => ?_)
  · exact e_1 c_2
  · refine a_iconst (v := 1) F dX8_init_100 (by decide) ?_
    refine a_istore_n F dX8_init_101 rfl (by decide) rfl ?_
    refine a_sub [1, 2, 0] rfl ?_
    exact e_2 c_2

theorem r_8_init_102 {X : Ctx} {mc ms k1 k2 : Nat} (F : Fx X cX8_init RX8 3 3 mc ms) (hk1 : k1 ≤ mc) (hk2 : k2 ≤ ms) {P O : Nat → Nat → Option Nat} (hP : laS P) {I A : Nat → Nat → Int32} {J : Nat → Nat → Int64} {pl : List Nat} (hB : inS pl) {x1 x2 : Int32}
    (e_1 : (16 ≤ x2) → WA X (mC P O I A J) pl k1 k2 94 [(0, .ref 116), (1, .int (x1 + 1))] [])
    (o_2 : (¬ (16 ≤ x2)) → vp_in (((16 * x1) + x2) - 1) 112)
    (o_3 : (¬ (16 ≤ x2)) → vp_in ((16 * (x1 - 1)) + x2) 112)
    (o_4 : (¬ (16 ≤ x2)) → vp_in ((16 * x1) + x2) 112)
    (e_5 : (¬ (16 ≤ x2)) → WA X (mC P O I (up1 A 118 (upd (A 118) ((16 * x1) + x2).toNatClampNeg ((A 118 (((16 * x1) + x2) - 1).toNatClampNeg) + (A 118 ((16 * (x1 - 1)) + x2).toNatClampNeg)))) J) pl k1 k2 102 [(0, .ref 116), (1, .int x1), (2, .int (x2 + 1))] []) :
    WA X (mC P O I A J) pl k1 k2 102 [(0, .ref 116), (1, .int x1), (2, .int x2)] [] := by
  refine a_iload_n F 2 dX8_init_102 rfl rfl ?_
  refine a_bipush (v := 16) F dX8_init_103 (by decide) ?_
  refine a_icmp_ge (tgt := 152) F dX8_init_105 (by decide) (fun (c_3 : 16 ≤ x2) => ?_) (fun (c_3 : ¬ (16 ≤ x2)) => ?_)
  · refine a_iinc (v := x1 + 1) F 1 dX8_init_152 rfl rfl (by decide) rfl ?_
    refine a_goto (tgt := 94) F dX8_init_155 (by decide) ?_
    refine a_sub [1, 0] rfl ?_
    exact e_1 c_3
  · refine a_aload_n F 0 dX8_init_108 rfl rfl ?_
    refine a_getr (b := 118) F fl_8_17 rfl (hB _ (by decide)) rfl hP.1 dX8_init_109 ?_
    refine a_bipush (v := 16) F dX8_init_112 (by decide) ?_
    refine a_iload_n F 1 dX8_init_114 rfl rfl ?_
    refine a_imul F dX8_init_115 ?_
    refine a_iload_n F 2 dX8_init_116 rfl rfl ?_
    refine a_iadd F dX8_init_117 ?_
    refine a_aload_n F 0 dX8_init_118 rfl rfl ?_
    refine a_getr (b := 118) F fl_8_17 rfl (hB _ (by decide)) rfl hP.1 dX8_init_119 ?_
    refine a_bipush (v := 16) F dX8_init_122 (by decide) ?_
    refine a_iload_n F 1 dX8_init_124 rfl rfl ?_
    refine a_imul F dX8_init_125 ?_
    refine a_iload_n F 2 dX8_init_126 rfl rfl ?_
    refine a_iadd F dX8_init_127 ?_
    refine a_iconst (v := 1) F dX8_init_128 (by decide) ?_
    refine a_isub F dX8_init_129 ?_
    refine a_iald F (hB _ (by decide)) rfl (o_2 c_3) dX8_init_130 ?_
    refine a_aload_n F 0 dX8_init_131 rfl rfl ?_
    refine a_getr (b := 118) F fl_8_17 rfl (hB _ (by decide)) rfl hP.1 dX8_init_132 ?_
    refine a_bipush (v := 16) F dX8_init_135 (by decide) ?_
    refine a_iload_n F 1 dX8_init_137 rfl rfl ?_
    refine a_iconst (v := 1) F dX8_init_138 (by decide) ?_
    refine a_isub F dX8_init_139 ?_
    refine a_imul F dX8_init_140 ?_
    refine a_iload_n F 2 dX8_init_141 rfl rfl ?_
    refine a_iadd F dX8_init_142 ?_
    refine a_iald F (hB _ (by decide)) rfl (o_3 c_3) dX8_init_143 ?_
    refine a_iadd F dX8_init_144 ?_
    refine a_iast F (hB _ (by decide)) rfl (o_4 c_3) dX8_init_145 ?_
    refine a_iinc (v := x2 + 1) F 2 dX8_init_146 rfl rfl (by decide) rfl ?_
    refine a_goto (tgt := 102) F dX8_init_149 (by decide) ?_
    refine a_sub [1, 2, 0] rfl ?_
    exact e_5 c_3

theorem r_8_init_158 {X : Ctx} {mc ms k1 k2 : Nat} (F : Fx X cX8_init RX8 3 3 mc ms) (hk1 : k1 ≤ mc) (hk2 : k2 ≤ ms) {P O : Nat → Nat → Option Nat} (hP : laS P) {I A : Nat → Nat → Int32} {J : Nat → Nat → Int64} {pl : List Nat} (hB : inS pl) {x1 : Int32}
    (o_1 : vp_in 0 13)
    (e_2 : WA X (mC P O I A (up1 J 119 (vp_updL (J 119) 0 1))) pl k1 k2 167 [(0, .ref 116), (1, .int 1)] []) :
    WA X (mC P O I A J) pl k1 k2 158 [(0, .ref 116), (1, .int x1)] [] := by
  refine a_aload_n F 0 dX8_init_158 rfl rfl ?_
  refine a_getr (b := 119) F fl_8_21 rfl (hB _ (by decide)) rfl hP.2.1 dX8_init_159 ?_
  refine a_iconst (v := 0) F dX8_init_162 (by decide) ?_
  refine a_lconst (v := 1) F dX8_init_163 (by decide) ?_
  refine a_last F (hB _ (by decide)) rfl (o_1) dX8_init_164 ?_
  refine a_iconst (v := 1) F dX8_init_165 (by decide) ?_
  refine a_istore_n F dX8_init_166 rfl (by decide) rfl ?_
  refine a_sub [1, 0] rfl ?_
  exact e_2

theorem r_8_init_167 {X : Ctx} {mc ms k1 k2 : Nat} (F : Fx X cX8_init RX8 3 3 mc ms) (hk1 : k1 ≤ mc) (hk2 : k2 ≤ ms) {P O : Nat → Nat → Option Nat} (hP : laS P) {I A : Nat → Nat → Int32} {J : Nat → Nat → Int64} {pl : List Nat} (hB : inS pl) {x1 : Int32}
    (e_1 : (12 < x1) → WA X (mC P O I A J) pl k1 k2 197 [(0, .ref 116), (1, .int x1)] [])
    (o_2 : (¬ (12 < x1)) → vp_in (x1 - 1) 13)
    (o_3 : (¬ (12 < x1)) → vp_in x1 13)
    (e_4 : (¬ (12 < x1)) → WA X (mC P O I A (up1 J 119 (vp_updL (J 119) x1.toNatClampNeg (36 * (J 119 (x1 - 1).toNatClampNeg))))) pl k1 k2 167 [(0, .ref 116), (1, .int (x1 + 1))] []) :
    WA X (mC P O I A J) pl k1 k2 167 [(0, .ref 116), (1, .int x1)] [] := by
  refine a_iload_n F 1 dX8_init_167 rfl rfl ?_
  refine a_bipush (v := 12) F dX8_init_168 (by decide) ?_
  refine a_icmp_gt (tgt := 197) F dX8_init_170 (by decide) (fun (c_4 : 12 < x1) => ?_) (fun (c_4 : ¬ (12 < x1)) => ?_)
  · exact e_1 c_4
  · refine a_aload_n F 0 dX8_init_173 rfl rfl ?_
    refine a_getr (b := 119) F fl_8_21 rfl (hB _ (by decide)) rfl hP.2.1 dX8_init_174 ?_
    refine a_iload_n F 1 dX8_init_177 rfl rfl ?_
    refine a_ldc2 F kc_8_41 dX8_init_178 ?_
    refine a_aload_n F 0 dX8_init_181 rfl rfl ?_
    refine a_getr (b := 119) F fl_8_21 rfl (hB _ (by decide)) rfl hP.2.1 dX8_init_182 ?_
    refine a_iload_n F 1 dX8_init_185 rfl rfl ?_
    refine a_iconst (v := 1) F dX8_init_186 (by decide) ?_
    refine a_isub F dX8_init_187 ?_
    refine a_lald F (hB _ (by decide)) rfl (o_2 c_4) dX8_init_188 ?_
    refine a_lmul F dX8_init_189 ?_
    refine a_last F (hB _ (by decide)) rfl (o_3 c_4) dX8_init_190 ?_
    refine a_iinc (v := x1 + 1) F 1 dX8_init_191 rfl rfl (by decide) rfl ?_
    refine a_goto (tgt := 167) F dX8_init_194 (by decide) ?_
    refine a_sub [1, 0] rfl ?_
    exact e_4 c_4

theorem r_8_init_197 {X : Ctx} {mc ms k1 k2 : Nat} (F : Fx X cX8_init RX8 3 3 mc ms) (hk1 : k1 ≤ mc) (hk2 : k2 ≤ ms) {P O : Nat → Nat → Option Nat} (hP : laS P) {I A : Nat → Nat → Int32} {J : Nat → Nat → Int64} {pl : List Nat} (hB : inS pl) {x1 : Int32}
    (e_1 : WA X (mC P O I A J) pl k1 k2 202 [(0, .ref 116), (1, .int x1)] [.long 1, .ref 144]) :
    WA X (mC P O I A J) pl k1 k2 197 [(0, .ref 116), (1, .int x1)] [] := by
  refine a_aload_n F 0 dX8_init_197 rfl rfl ?_
  refine a_getr (b := 144) F fl_8_31 rfl (hB _ (by decide)) rfl hP.2.2 dX8_init_198 ?_
  refine a_lconst (v := 1) F dX8_init_201 (by decide) ?_
  exact e_1

theorem r_8_init_207 {X : Ctx} {mc ms k1 k2 : Nat} (F : Fx X cX8_init RX8 3 3 mc ms) (hk1 : k1 ≤ mc) (hk2 : k2 ≤ ms) {Φ : Option Value → HS → List Nat → Prop} (E : Ex X none mc ms Φ) {P O : Nat → Nat → Option Nat} (hP : laS P) {I A : Nat → Nat → Int32} {J : Nat → Nat → Int64} {pl : List Nat} (hB : inS pl) {x1 : Int32}
    (e_1 : (32 ≤ x1) → Φ none (mC P O I A J) pl)
    (e_2 : (¬ (32 ≤ x1)) → WA X (mC P O I A J) pl k1 k2 219 [(0, .ref 116), (1, .int x1)] [.int 36, .ref 144]) :
    WA X (mC P O I A J) pl k1 k2 207 [(0, .ref 116), (1, .int x1)] [] := by
  refine a_iload_n F 1 dX8_init_207 rfl rfl ?_
  refine a_bipush (v := 32) F dX8_init_208 (by decide) ?_
  refine a_icmp_ge (tgt := 228) F dX8_init_210 (by decide) (fun (c_5 : 32 ≤ x1) => ?_) (fun (c_5 : ¬ (32 ≤ x1)) => ?_)
  · exact a_vret F E dX8_init_228 hk1 hk2 (e_1 c_5)
  · refine a_aload_n F 0 dX8_init_213 rfl rfl ?_
    refine a_getr (b := 144) F fl_8_31 rfl (hB _ (by decide)) rfl hP.2.2 dX8_init_214 ?_
    refine a_bipush (v := 36) F dX8_init_217 (by decide) ?_
    exact e_2 c_5

set_option maxRecDepth 10000 in
theorem c_8_init (l : Launch) {P O : Nat → Nat → Option Nat} (I A : Nat → Nat → Int32) (J : Nat → Nat → Int64) {pl : List Nat} (hp_116 : 116 ∈ pl) (hn_117 : 117 ∉ pl) (hn_118 : 118 ∉ pl) (hn_119 : 119 ∉ pl) (hn_124 : 124 ∉ pl) (hn_144 : 144 ∉ pl) (hn_145 : 145 ∉ pl) (hn_146 : 146 ∉ pl) (hn_147 : 147 ∉ pl) (hn_148 : 148 ∉ pl) (hn_149 : 149 ∉ pl) (hC : clC P O pl) (hP_144 : P 144 = fun k => if k = 0 then some (144 + 1) else none) (hP_146 : P 146 = fun k => if k = 0 then some (146 + 1) else none) (hP_148 : P 148 = fun k => if k = 0 then some (148 + 1) else none) : ConS l 3 yX8_init cX8_init 3 none [.ref 116] (mC P O I A J) pl 10 1006 (fun r σ' pl' => r = none ∧ ∃ A' J', σ' = mC (up2 (up2 (up2 (up2 (up2 (up2 (up2 P 116 0 (some 117)) 116 1 (some 118)) 116 2 (some 119)) 116 3 (some 124)) 116 4 (some 144)) 116 5 (some 146)) 116 6 (some 148)) (up1 O 117 (fun _ => none)) (up1 (up1 (up1 I 144 (fun _ => 0)) 146 (fun _ => 0)) 148 (fun _ => 0)) A' J' ∧ pl' = (((((((((pl ++ [117] ++ [118]) ++ [119]) ++ [124]) ++ [144]) ++ [145]) ++ [146]) ++ [147]) ++ [148]) ++ [149]) ∧ clC (up2 (up2 (up2 (up2 (up2 (up2 (up2 P 116 0 (some 117)) 116 1 (some 118)) 116 2 (some 119)) 116 3 (some 124)) 116 4 (some 144)) 116 5 (some 146)) 116 6 (some 148)) (up1 O 117 (fun _ => none)) ((((((((((pl ++ [117] ++ [118]) ++ [119]) ++ [124]) ++ [144]) ++ [145]) ++ [146]) ++ [147]) ++ [148]) ++ [149])) ∧ (∀ q, q ≠ 118 → A' q = A q) ∧ rkT (A' 118) ∧ (∀ q, q ≠ 119 → q ≠ 124 → q ≠ 145 → q ≠ 147 → q ≠ 149 → J' q = J q) ∧ pwT J') := by
  refine ConS.of (by decide) (Nat.le_of_ble_eq_true rfl) (fun X hX9 hn9 F E S => ?_)
  refine a_aload_n F 0 dX8_init_0 rfl rfl ?_
  refine a_objI F oi_8 oi_i oi_c (by decide) dX8_init_1 (by decide) ?_
  refine a_aload_n F 0 dX8_init_4 rfl rfl ?_
  refine a_sipush (v := 848) F dX8_init_5 (by decide) ?_
  refine a_newq (ci := 7) (p := 117) F (by decide) rfl (hC.no hn_117) cl_8_3 S.2.1.2 (by decide) rfl (Nat.le_of_ble_eq_true rfl) dX8_init_8 (Nat.le_of_ble_eq_true rfl) (Nat.le_of_ble_eq_true rfl) (hl_r hp_116 hl_nil) (hs_r hp_116 hs_nil) ?_
  have hC1 := hC.rowq (p := 117) hn_117 (by decide)
  refine a_putF F hn9 fl_8_13 rfl rfl rfl (fun _ => rfl) (fun _ => rfl) (mL hp_116) rfl dX8_init_11 ?_
  have hC2 := hC1.put (p := 116) (k := 0) mR
  refine a_aload_n F 0 dX8_init_14 rfl rfl ?_
  refine a_bipush (v := 112) F dX8_init_15 (by decide) ?_
  refine a_newi (p := 118) F rfl (hC2.no (nap hn_118 (by decide))) ac_int (by decide) rfl (Nat.le_of_ble_eq_true rfl) dX8_init_17 (Nat.le_of_ble_eq_true rfl) (Nat.le_of_ble_eq_true rfl) (hl_r (mL hp_116) hl_nil) (hs_r (mL hp_116) hs_nil) ?_
  have hC3 := hC2.row (p := 118) (by decide) (by decide)
  refine a_putF F hn9 fl_8_17 rfl rfl rfl (fun _ => rfl) (fun _ => rfl) (mL (mL hp_116)) rfl dX8_init_19 ?_
  have hC4 := hC3.put (p := 116) (k := 1) mR
  refine a_aload_n F 0 dX8_init_22 rfl rfl ?_
  refine a_bipush (v := 13) F dX8_init_23 (by decide) ?_
  refine a_newl (p := 119) F rfl (hC4.no (nap (nap hn_119 (by decide)) (by decide))) ac_long (by decide) rfl (Nat.le_of_ble_eq_true rfl) dX8_init_25 (Nat.le_of_ble_eq_true rfl) (Nat.le_of_ble_eq_true rfl) (hl_r (mL (mL hp_116)) hl_nil) (hs_r (mL (mL hp_116)) hs_nil) ?_
  have hC5 := hC4.row (p := 119) (by decide) (by decide)
  refine a_putF F hn9 fl_8_21 rfl rfl rfl (fun _ => rfl) (fun _ => rfl) (mL (mL (mL hp_116))) rfl dX8_init_27 ?_
  have hC6 := hC5.put (p := 116) (k := 2) mR
  refine a_aload_n F 0 dX8_init_30 rfl rfl ?_
  refine a_bipush (v := 12) F dX8_init_31 (by decide) ?_
  refine a_newl (p := 124) F rfl (hC6.no (nap (nap (nap hn_124 (by decide)) (by decide)) (by decide))) ac_long (by decide) rfl (Nat.le_of_ble_eq_true rfl) dX8_init_33 (Nat.le_of_ble_eq_true rfl) (Nat.le_of_ble_eq_true rfl) (hl_r (mL (mL (mL hp_116))) hl_nil) (hs_r (mL (mL (mL hp_116))) hs_nil) ?_
  have hC7 := hC6.row (p := 124) (by decide) (by decide)
  refine a_putF F hn9 fl_8_25 rfl rfl rfl (fun _ => rfl) (fun _ => rfl) (mL (mL (mL (mL hp_116)))) rfl dX8_init_35 ?_
  have hC8 := hC7.put (p := 116) (k := 3) mR
  refine a_aload_n F 0 dX8_init_38 rfl rfl ?_
  refine a_newWh (p := 144) F S rfl (nap (nap (nap (nap hn_144 (by decide)) (by decide)) (by decide)) (by decide)) (nap (nap (nap (nap hn_145 (by decide)) (by decide)) (by decide)) (by decide)) hC8 (by first | rfl | exact hP_144) cl_8_28 mn_8_30 dX8_init_39 dX8_init_42 dX8_init_43 (by decide) (Nat.le_of_ble_eq_true rfl) (Nat.le_of_ble_eq_true rfl) (hl_r (mL (mL (mL (mL hp_116)))) hl_nil) (hs_r (mL (mL (mL (mL hp_116)))) hs_nil) (by decide) ?_
  have hC9 := clC.ob hC8 (p := 144) (nap (nap (nap (nap hn_144 (by decide)) (by decide)) (by decide)) (by decide)) (by decide) (by decide) (by decide) (by decide) (by first | rfl | exact hP_144)
  refine a_putF F hn9 fl_8_31 rfl rfl rfl (fun _ => rfl) (fun _ => rfl) (mL (mL (mL (mL (mL (mL hp_116)))))) rfl dX8_init_46 ?_
  have hC10 := hC9.put (p := 116) (k := 4) (mL mR)
  refine a_aload_n F 0 dX8_init_49 rfl rfl ?_
  refine a_newWh (p := 146) F S rfl (nap (nap (nap (nap (nap (nap hn_146 (by decide)) (by decide)) (by decide)) (by decide)) (by decide)) (by decide)) (nap (nap (nap (nap (nap (nap hn_147 (by decide)) (by decide)) (by decide)) (by decide)) (by decide)) (by decide)) hC10 (by first | rfl | exact hP_146) cl_8_28 mn_8_30 dX8_init_50 dX8_init_53 dX8_init_54 (by decide) (Nat.le_of_ble_eq_true rfl) (Nat.le_of_ble_eq_true rfl) (hl_r (mL (mL (mL (mL (mL (mL hp_116)))))) hl_nil) (hs_r (mL (mL (mL (mL (mL (mL hp_116)))))) hs_nil) (by decide) ?_
  have hC11 := clC.ob hC10 (p := 146) (nap (nap (nap (nap (nap (nap hn_146 (by decide)) (by decide)) (by decide)) (by decide)) (by decide)) (by decide)) (by decide) (by decide) (by decide) (by decide) (by first | rfl | exact hP_146)
  refine a_putF F hn9 fl_8_35 rfl rfl rfl (fun _ => rfl) (fun _ => rfl) (mL (mL (mL (mL (mL (mL (mL (mL hp_116)))))))) rfl dX8_init_57 ?_
  have hC12 := hC11.put (p := 116) (k := 5) (mL mR)
  refine a_aload_n F 0 dX8_init_60 rfl rfl ?_
  refine a_newWh (p := 148) F S rfl (nap (nap (nap (nap (nap (nap (nap (nap hn_148 (by decide)) (by decide)) (by decide)) (by decide)) (by decide)) (by decide)) (by decide)) (by decide)) (nap (nap (nap (nap (nap (nap (nap (nap hn_149 (by decide)) (by decide)) (by decide)) (by decide)) (by decide)) (by decide)) (by decide)) (by decide)) hC12 (by first | rfl | exact hP_148) cl_8_28 mn_8_30 dX8_init_61 dX8_init_64 dX8_init_65 (by decide) (Nat.le_of_ble_eq_true rfl) (Nat.le_of_ble_eq_true rfl) (hl_r (mL (mL (mL (mL (mL (mL (mL (mL hp_116)))))))) hl_nil) (hs_r (mL (mL (mL (mL (mL (mL (mL (mL hp_116)))))))) hs_nil) (by decide) ?_
  have hC13 := clC.ob hC12 (p := 148) (nap (nap (nap (nap (nap (nap (nap (nap hn_148 (by decide)) (by decide)) (by decide)) (by decide)) (by decide)) (by decide)) (by decide)) (by decide)) (by decide) (by decide) (by decide) (by decide) (by first | rfl | exact hP_148)
  refine a_putF F hn9 fl_8_38 rfl rfl rfl (fun _ => rfl) (fun _ => rfl) (mL (mL (mL (mL (mL (mL (mL (mL (mL (mL hp_116)))))))))) rfl dX8_init_68 ?_
  have hC14 := hC13.put (p := 116) (k := 6) (mL mR)
  refine a_iconst (v := 0) F dX8_init_71 (by decide) ?_
  refine a_istore_n F dX8_init_72 rfl (by decide) rfl ?_
  show WA X (mC (up2 (up2 (up2 (up2 (up2 (up2 (up2 P 116 0 (some 117)) 116 1 (some 118)) 116 2 (some 119)) 116 3 (some 124)) 116 4 (some 144)) 116 5 (some 146)) 116 6 (some 148)) (up1 O 117 (fun _ => none)) (up1 (up1 (up1 I 144 (fun _ => 0)) 146 (fun _ => 0)) 148 (fun _ => 0)) (up1 A 118 (fun _ => 0)) (up1 (up1 (up1 (up1 (up1 J 119 (fun _ => 0)) 124 (fun _ => 0)) 145 (fun _ => 0)) 147 (fun _ => 0)) 149 (fun _ => 0))) ((((((((((pl ++ [117] ++ [118]) ++ [119]) ++ [124]) ++ [144]) ++ [145]) ++ [146]) ++ [147]) ++ [148]) ++ [149])) 10 1006 73 [(1, .int 0), (0, .ref 116)] []
  rw [show up1 A 118 (fun _ => (0 : Int32)) = up1 A 118 (rk1 0) from by rw [show rk1 0 = fun _ => (0 : Int32) from by funext j; unfold rk1; rw [if_neg (by omega)]]]
  have hP : laS (up2 (up2 (up2 (up2 (up2 (up2 (up2 P 116 0 (some 117)) 116 1 (some 118)) 116 2 (some 119)) 116 3 (some 124)) 116 4 (some 144)) 116 5 (some 146)) 116 6 (some 148)) := ⟨rfl, rfl, rfl⟩
  have hB : inS ((((((((((pl ++ [117] ++ [118]) ++ [119]) ++ [124]) ++ [144]) ++ [145]) ++ [146]) ++ [147]) ++ [148]) ++ [149])) := fun q hq => by
    simp only [List.mem_cons, List.not_mem_nil, or_false] at hq
    rcases hq with rfl | rfl | rfl | rfl | rfl
    · exact (mL (mL (mL (mL (mL (mL (mL (mL (mL (mL hp_116))))))))))
    · exact (mL (mL (mL (mL (mL (mL (mL (mL mR))))))))
    · exact (mL (mL (mL (mL (mL (mL (mL mR)))))))
    · exact (mL (mL (mL (mL (mL mR)))))
    · exact (mL (mL (mL (mL mR))))
  have hC9 := hC14
  have hP4 : (up2 (up2 (up2 (up2 (up2 (up2 (up2 P 116 0 (some 117)) 116 1 (some 118)) 116 2 (some 119)) 116 3 (some 124)) 116 4 (some 144)) 116 5 (some 146)) 116 6 (some 148)) 144 0 = some (144 + 1) := by show P 144 0 = _; rw [hP_144]; rfl
  generalize (up2 (up2 (up2 (up2 (up2 (up2 (up2 P 116 0 (some 117)) 116 1 (some 118)) 116 2 (some 119)) 116 3 (some 124)) 116 4 (some 144)) 116 5 (some 146)) 116 6 (some 148)) = P9 at *
  generalize (up1 (up1 (up1 I 144 (fun _ => 0)) 146 (fun _ => 0)) 148 (fun _ => 0)) = I9 at *
  generalize hO9 : (up1 O 117 (fun _ => none)) = O9 at *
  generalize ((((((((((pl ++ [117] ++ [118]) ++ [119]) ++ [124]) ++ [144]) ++ [145]) ++ [146]) ++ [147]) ++ [148]) ++ [149])) = L9 at *
  generalize hJ1 : (up1 (up1 (up1 (up1 (up1 J 119 (fun _ => 0)) 124 (fun _ => 0)) 145 (fun _ => 0)) 147 (fun _ => 0)) 149 (fun _ => 0)) = J9
  have j1 : J9 119 = fun _ => 0 := by rw [← hJ1]; rfl
  refine a_sub [1, 0] rfl ?_
  have hk1 : 10 ≤ 10 := Nat.le_refl _
  have hk2 : 1006 ≤ 1006 := Nat.le_refl _
  show WA X _ L9 10 1006 73 [(0, .ref 116), (1, .int 0)] []
  have l4 : ∀ f k A' (J' : Nat → Nat → Int64) r, k + f = 32 → J' 145 = putW r 6 (36 ^ k) → (∀ q, q ≠ 118 → A' q = A q) → rkT (A' 118) → (∀ n, n ≤ 12 → J' 119 n = lN (36 ^ n)) → (∀ q, q ≠ 119 → q ≠ 145 → J' q = J9 q) → WA X (mC P9 O9 I9 A' J') L9 10 1006 207 [(0, .ref 116), (1, .int (nI k))] [] := by
    intro f
    induction f with
    | zero =>
      intro k A' J' r hk hr hA hT hw hJ
      obtain rfl : k = 32 := by omega
      refine r_8_init_207 F hk1 hk2 E hP hB (fun _ => ⟨rfl, A', J', rfl, rfl, hC9, hA, hT, fun q h1 h2 h3 h4 h5 => ?_, hw, by rw [hr]; exact pw_dig, by rw [hr, pw_val 6 (Nat.le_refl _)]⟩) (fun z => absurd (by decide) z)
      rw [hJ q h1 h3, ← hJ1, up1_p h5, up1_p h4, up1_p h3, up1_p h2, up1_p h1]
    | succ f ih =>
      intro k A' J' r hk hr hA hT hw hJ
      have h : ¬ (32 : Int32) ≤ nI k := fun z => by have := (nI_gen 32 (by omega) (by omega)).mp z; omega
      refine r_8_init_207 F hk1 hk2 E hP hB (fun z => absurd z h) (fun _ => ?_)
      refine a_callV (b := 144) (As := [.int 36]) (st := []) (ci := 10) F (c_10_multiplyW (xl X) I9 A' J' 144 rfl (hB _ (by decide)) (hB _ (by decide)) hP4 36 (by rw [hr]; exact pw_dig) (by decide) (by decide)) ml_8_47 im_yX10_multiply se_yX10_multiply (by decide) (by decide) rfl (hB _ (by decide)) rfl rfl dX8_init_219 (by decide) (Nat.le_refl 10) (Nat.le_refl 1006) (hl_r (hB _ (by decide)) (hl_i hl_nil)) hs_nil ?_
      rintro _ _ _ ⟨rfl, rfl, rfl⟩ _
      refine a_iinc (v := nI k + 1) F 1 dX8_init_222 rfl rfl (by decide) rfl ?_
      refine a_goto (tgt := 207) F dX8_init_225 (by decide) ?_
      refine a_sub [1, 0] rfl ?_
      rw [nI_1]
      have lt : 36 ^ k < 2 ^ (31 * 6) := Nat.lt_of_le_of_lt (Nat.pow_le_pow_right (by decide) (show k ≤ 32 by omega)) (by decide)
      refine ih (k + 1) A' (up1 J' 145 (putW (J' 145) 6 (valW (J' 145) 6 * 36))) r (by omega) ?_ hA hT (fun n hn => by rw [up1_p (by decide)]; exact hw n hn) (fun q h1 h2 => by rw [up1_p h2]; exact hJ q h1 h2)
      rw [up1_s, hr, pw_pw (Nat.le_refl _), pw_val 6 (Nat.le_refl _), Nat.mod_eq_of_lt lt, Nat.pow_succ]
  have l3 : ∀ f n A', n + f = 13 → 1 ≤ n → (∀ q, q ≠ 118 → A' q = A q) → rkT (A' 118) → WA X (mC P9 O9 I9 A' (up1 J9 119 (pwR n))) L9 10 1006 167 [(0, .ref 116), (1, .int (nI n))] [] := by
    intro f
    induction f with
    | zero =>
      intro n A' hn h1 hA hT
      obtain rfl : n = 13 := by omega
      refine r_8_init_167 F hk1 hk2 hP hB (fun _ => ?_) (fun z => absurd (by decide) z) (fun z => absurd (by decide) z) (fun z => absurd (by decide) z)
      refine r_8_init_197 F hk1 hk2 hP hB ?_
      refine a_callV (b := 144) (As := [.long 1]) (st := []) (ci := 10) F (c_10_setW (xl X) I9 A' (up1 J9 119 (pwR 13)) 144 rfl (hB _ (by decide)) (hB _ (by decide)) hP4 1 (by decide)) ml_8_43 im_yX10_set se_yX10_set (by decide) (by decide) rfl (hB _ (by decide)) rfl rfl dX8_init_202 (by decide) (Nat.le_refl 10) (Nat.le_refl 1006) (hl_r (hB _ (by decide)) (hl_i hl_nil)) hs_nil ?_
      rintro _ _ _ ⟨rfl, rfl, rfl⟩ _
      refine a_iconst (v := 0) F dX8_init_205 (by decide) ?_
      refine a_istore_n F dX8_init_206 rfl (by decide) rfl ?_
      refine a_sub [1, 0] rfl ?_
      refine l4 32 0 A' _ (up1 J9 119 (pwR 13) 145) (by omega) up1_s hA hT (fun n hn => ?_) (fun q h1 h2 => by rw [up1_p h2, up1_p h1])
      rw [up1_p (by decide), up1_s]
      unfold pwR
      rw [if_pos (by omega)]
    | succ f ih =>
      intro n A' hn h1 hA hT
      have h : ¬ (12 : Int32) < nI n := fun z => by have := (nI_gtn 12 (by omega) (by omega)).mp z; omega
      have e1 : nI n - 1 = nI (n - 1) := nI_S (b := 1) h1
      refine r_8_init_167 F hk1 hk2 hP hB (fun z => absurd z h) (fun _ => by rw [e1]; exact vp_in_nI (by omega) (by omega)) (fun _ => vp_in_nI (by omega) (by omega)) (fun _ => ?_)
      rw [e1, nI_clamp (by omega), nI_clamp (by omega), up1_s, up1_up1, pwR_s h1, nI_1]
      exact ih (n + 1) A' (by omega) (by omega) hA hT
  have l2 : ∀ f K, K + f = 7 → 1 ≤ K → WA X (mC P9 O9 I9 (up1 A 118 (rkV K 1)) J9) L9 10 1006 94 [(0, .ref 116), (1, .int (nI K))] [] := by
    intro f
    induction f with
    | zero =>
      intro K hK h1
      obtain rfl : K = 7 := by omega
      refine r_8_init_94 F hk1 hk2 hP hB (fun _ => ?_) (fun z => absurd (by decide) z)
      refine r_8_init_158 F hk1 hk2 hP hB (vp_in_nI (n := 0) (by omega) (by omega)) ?_
      rw [j1, pwR_1]
      exact l3 12 1 _ (by omega) (by omega) (fun q hq => up1_p hq) (by rw [up1_s]; exact rkV_T)
    | succ f ih =>
      intro K hK h1
      have h : ¬ (6 : Int32) < nI K := fun z => by have := (nI_gtn 6 (by omega) (by omega)).mp z; omega
      refine r_8_init_94 F hk1 hk2 hP hB (fun z => absurd z h) (fun _ => ?_)
      have li : ∀ f M, M + f = 16 → 1 ≤ M → WA X (mC P9 O9 I9 (up1 A 118 (rkV K M)) J9) L9 10 1006 102 [(0, .ref 116), (1, .int (nI K)), (2, .int (nI M))] [] := by
        intro f
        induction f with
        | zero =>
          intro M hM m1
          obtain rfl : M = 16 := by omega
          refine r_8_init_102 F hk1 hk2 hP hB (fun _ => ?_) (fun z => absurd (by decide) z) (fun z => absurd (by decide) z) (fun z => absurd (by decide) z) (fun z => absurd (by decide) z)
          rw [rkV_n, nI_1]
          exact ih (K + 1) (by omega) (by omega)
        | succ f ih2 =>
          intro M hM m1
          have h2 : ¬ (16 : Int32) ≤ nI M := fun z => by have := (nI_gen 16 (by omega) (by omega)).mp z; omega
          have a1 : (16 : Int32) * nI K + nI M = nI (16 * K + M) := by rw [show (16 : Int32) = nI 16 from rfl, nI_T, nI_A]
          have a2 : (16 : Int32) * nI K + nI M - 1 = nI (16 * K + M - 1) := by rw [a1]; exact nI_S (b := 1) (by omega)
          have a3 : (16 : Int32) * (nI K - 1) + nI M = nI (16 * (K - 1) + M) := by rw [show nI K - 1 = nI (K - 1) from nI_S (b := 1) h1, show (16 : Int32) = nI 16 from rfl, nI_T, nI_A]
          refine r_8_init_102 F hk1 hk2 hP hB (fun z => absurd z h2) (fun _ => by rw [a2]; exact vp_in_nI (by omega) (by omega)) (fun _ => by rw [a3]; exact vp_in_nI (by omega) (by omega)) (fun _ => by rw [a1]; exact vp_in_nI (by omega) (by omega)) (fun _ => ?_)
          rw [a2, a3, a1, nI_clamp (by omega), nI_clamp (by omega), nI_clamp (by omega), up1_s, up1_up1, rkV_v h1 m1 (by omega), rkV_s (by omega), nI_1]
          exact ih2 (M + 1) (by omega) (by omega)
      exact li 15 1 (by omega) (by omega)
  have l1 : ∀ f m, m + f = 16 → WA X (mC P9 O9 I9 (up1 A 118 (rk1 m)) J9) L9 10 1006 73 [(0, .ref 116), (1, .int (nI m))] [] := by
    intro f
    induction f with
    | zero =>
      intro m hm
      obtain rfl : m = 16 := by omega
      refine r_8_init_73 F hk1 hk2 hP hB (fun _ => ?_) (fun z => absurd (by decide) z) (fun z => absurd (by decide) z)
      rw [rk1_e]
      exact l2 6 1 (by omega) (by omega)
    | succ f ih =>
      intro m hm
      have h : ¬ (16 : Int32) ≤ nI m := fun z => by have := (nI_gen 16 (by omega) (by omega)).mp z; omega
      refine r_8_init_73 F hk1 hk2 hP hB (fun z => absurd z h) (fun _ => vp_in_nI (by omega) (by omega)) (fun _ => ?_)
      rw [up1_up1, up1_s, nI_clamp (by omega), rk1_s, nI_1]
      exact ih (m + 1) (by omega)
  exact l1 16 0 (by omega)
