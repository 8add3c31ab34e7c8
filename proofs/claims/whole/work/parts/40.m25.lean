def overB (B : Nat → Nat) : Prop := B 0 = 15 ∨ B 26 = 15
def gP (m x y : Nat) (B0 : Nat → Nat) (len : Nat) : Prop := len = 1 ∧ x ≠ y ∧ ∃ p, 1 ≤ p ∧ p ≤ 25 ∧ cmP B0 m p y
/-- how long the plays are, and by which die alone -/
def plyP (m x y : Nat) (B0 : Nat → Nat) (len g : Nat) : Prop := len ≤ 4 ∧ (overB B0 → len = 0) ∧ (¬ overB B0 → (∀ d B w, rchN m x y 0 (L0F x y) B0 d B w → d ≤ len) ∧ ∃ B w, rchN m x y 0 (L0F x y) B0 len B w) ∧ ((gP m x y B0 len ∧ g = y) ∨ (¬ gP m x y B0 len ∧ g = 0))
def fr8 (I I' : Nat → Nat → Int32) : Prop := ∀ k, k ≠ 8 → k ≠ 9 → k ≠ 10 → k ≠ 11 → k ≠ 12 → I' 0 k = I 0 k
def bpS (I' A' : Nat → Nat → Int32) (m x y len g : Nat) (B0 : Nat → Nat) : Prop := I' 0 8 = nI m ∧ I' 0 9 = nI x ∧ I' 0 10 = nI y ∧ I' 0 11 = nI len ∧ I' 0 12 = nI g ∧ bdR (A' 3) 0 B0 ∧ plyP m x y B0 len g
def bpQ (I A : Nat → Nat → Int32) (J : Nat → Nat → Int64) (m x y : Nat) (B0 : Nat → Nat) : Option Value → HS → List Nat → Prop := fun r σ' pl' => ∃ I' A' len g, r = none ∧ σ' = mS I' A' J ∧ pl' = plM ∧ fr8 I I' ∧ FrO A A' ∧ bpS I' A' m x y len g B0
def frQ (I A : Nat → Nat → Int32) (J : Nat → Nat → Int64) (m x y : Nat) (B0 : Nat → Nat) : Option Value → HS → List Nat → Prop := fun r σ' pl' => ∃ I' A' len g, r = none ∧ σ' = mS I' A' J ∧ pl' = plM ∧ (∀ k, k ≠ 16 → k ≠ 17 → k ≠ 8 → k ≠ 9 → k ≠ 10 → k ≠ 11 → k ≠ 12 → I' 0 k = I 0 k) ∧ FrO A A' ∧ bpS I' A' m x y len g B0 ∧ I' 0 17 = nI len ∧ tabA I' A' len m (rchN m x y g (L0F x y) B0 len)

theorem r_12_beginPlays_0 {X : Ctx} (F : Fx X cX12_beginPlays RX12 4 5 0 0) {I A : Nat → Nat → Int32} {J : Nat → Nat → Int64} {x1 x2 : Int32}
    (e_1 : WA X (mS (up2 (up2 (up2 I 0 9 (if x2 ≤ x1 then x2 else x1)) 0 10 (if x2 ≤ x1 then x1 else x2)) 0 8 (I 0 2)) A J) plM 0 0 38 [(0, .ref 0), (1, .int x1), (2, .int x2), (3, .int 0)] []) :
    WA X (mS I A J) plM 0 0 0 [(0, .ref 0), (1, .int x1), (2, .int x2)] [] := by
  refine a_aload_n F 0 dX12_beginPlays_0 rfl rfl ?_
  refine a_iload_n F 1 dX12_beginPlays_1 rfl rfl ?_
  refine a_iload_n F 2 dX12_beginPlays_2 rfl rfl ?_
  suffices k : ∀ z9 : Int32, z9 = (if x2 ≤ x1 then x2 else x1) → WA X (mS I A J) plM 0 0 11 [(0, .ref 0), (1, .int x1), (2, .int x2)] [.int z9, .ref 0] by
    refine a_icmp_ge (tgt := 10) F dX12_beginPlays_3 (by decide) (fun (c_1 : x2 ≤ x1) => ?_) (fun (c_1 : ¬ (x2 ≤ x1)) => ?_)
    · refine a_iload_n F 2 dX12_beginPlays_10 rfl rfl ?_
      exact k _ (by rw [if_pos c_1] <;> rfl)
    · refine a_iload_n F 1 dX12_beginPlays_6 rfl rfl ?_
      refine a_goto (tgt := 11) F dX12_beginPlays_7 (by decide) ?_
      exact k _ (by rw [if_neg c_1] <;> rfl)
  rintro _ rfl
  refine a_puti F fl_12_179 rfl rfl rfl rfl (by decide) rfl dX12_beginPlays_11 ?_
  refine a_aload_n F 0 dX12_beginPlays_14 rfl rfl ?_
  refine a_iload_n F 1 dX12_beginPlays_15 rfl rfl ?_
  refine a_iload_n F 2 dX12_beginPlays_16 rfl rfl ?_
  suffices k : ∀ z9 : Int32, z9 = (if x2 ≤ x1 then x1 else x2) → WA X (mS (up2 I 0 9 (if x2 ≤ x1 then x2 else x1)) A J) plM 0 0 25 [(0, .ref 0), (1, .int x1), (2, .int x2)] [.int z9, .ref 0] by
    refine a_icmp_ge (tgt := 24) F dX12_beginPlays_17 (by decide) (fun (c_2 : x2 ≤ x1) => ?_) (fun (c_2 : ¬ (x2 ≤ x1)) => ?_)
    · refine a_iload_n F 1 dX12_beginPlays_24 rfl rfl ?_
      exact k _ (by rw [if_pos c_2] <;> rfl)
    · refine a_iload_n F 2 dX12_beginPlays_20 rfl rfl ?_
      refine a_goto (tgt := 25) F dX12_beginPlays_21 (by decide) ?_
      exact k _ (by rw [if_neg c_2] <;> rfl)
  rintro _ rfl
  refine a_puti F fl_12_182 rfl rfl rfl rfl (by decide) rfl dX12_beginPlays_25 ?_
  refine a_aload_n F 0 dX12_beginPlays_28 rfl rfl ?_
  refine a_aload_n F 0 dX12_beginPlays_29 rfl rfl ?_
  refine a_geti F fl_12_149 rfl (by decide) rfl dX12_beginPlays_30 ?_
  refine a_puti F fl_12_176 rfl rfl rfl rfl (by decide) rfl dX12_beginPlays_33 ?_
  refine a_iconst (v := 0) F dX12_beginPlays_36 (by decide) ?_
  refine a_istore_n F dX12_beginPlays_37 rfl (by decide) rfl ?_
  refine a_sub [1, 2, 3, 0] rfl ?_
  exact e_1

theorem r_12_beginPlays_38 {X : Ctx} (F : Fx X cX12_beginPlays RX12 4 5 0 0) {I A : Nat → Nat → Int32} {J : Nat → Nat → Int64} {x1 x2 x3 : Int32}
    (e_1 : (52 ≤ x3) → WA X (mS I A J) plM 0 0 62 [(0, .ref 0), (1, .int x1), (2, .int x2), (3, .int x3)] [])
    (o_2 : (¬ (52 ≤ x3)) → vp_in x3 52)
    (o_3 : (¬ (52 ≤ x3)) → vp_in x3 468)
    (e_4 : (¬ (52 ≤ x3)) → WA X (mS I (up1 A 3 (upd (A 3) x3.toNatClampNeg (A 1 x3.toNatClampNeg))) J) plM 0 0 38 [(0, .ref 0), (1, .int x1), (2, .int x2), (3, .int (x3 + 1))] []) :
    WA X (mS I A J) plM 0 0 38 [(0, .ref 0), (1, .int x1), (2, .int x2), (3, .int x3)] [] := by
  refine a_iload_n F 3 dX12_beginPlays_38 rfl rfl ?_
  refine a_bipush (v := 52) F dX12_beginPlays_39 (by decide) ?_
  refine a_icmp_ge (tgt := 62) F dX12_beginPlays_41 (by decide) (fun (c_3 : 52 ≤ x3) => ?_) (fun (c_3 : ¬ (52 ≤ x3)) => ?_)
  · exact e_1 c_3
  · refine a_aload_n F 0 dX12_beginPlays_44 rfl rfl ?_
    refine a_getr (b := 3) F fl_12_17 rfl (by decide) rfl rfl dX12_beginPlays_45 ?_
    refine a_iload_n F 3 dX12_beginPlays_48 rfl rfl ?_
    refine a_aload_n F 0 dX12_beginPlays_49 rfl rfl ?_
    refine a_getr (b := 1) F fl_12_13 rfl (by decide) rfl rfl dX12_beginPlays_50 ?_
    refine a_iload_n F 3 dX12_beginPlays_53 rfl rfl ?_
    refine a_iald F (by decide) rfl (o_2 c_3) dX12_beginPlays_54 ?_
    refine a_iast F (by decide) rfl (o_3 c_3) dX12_beginPlays_55 ?_
    refine a_iinc (v := x3 + 1) F 3 dX12_beginPlays_56 rfl rfl (by decide) rfl ?_
    refine a_goto (tgt := 38) F dX12_beginPlays_59 (by decide) ?_
    refine a_sub [1, 2, 3, 0] rfl ?_
    exact e_4 c_3

theorem r_12_beginPlays_62 {X : Ctx} (F : Fx X cX12_beginPlays RX12 4 5 0 0) {I A : Nat → Nat → Int32} {J : Nat → Nat → Int64} {x1 x2 x3 : Int32}
    (e_1 : ((A 1) 0 = 15 ∨ (A 1) 26 = 15) → WA X (mS (up2 (up2 I 0 12 0) 0 11 0) A J) plM 0 0 87 [(0, .ref 0), (1, .int x1), (2, .int x2), (3, .int x3)] [])
    (e_2 : (¬ ((A 1) 0 = 15 ∨ (A 1) 26 = 15)) → WA X (mS (up2 I 0 12 0) A J) plM 0 0 81 [(0, .ref 0), (1, .int x1), (2, .int x2), (3, .int x3)] [.int 0, .ref 0, .ref 0]) :
    WA X (mS I A J) plM 0 0 62 [(0, .ref 0), (1, .int x1), (2, .int x2), (3, .int x3)] [] := by
  refine a_aload_n F 0 dX12_beginPlays_62 rfl rfl ?_
  refine a_iconst (v := 0) F dX12_beginPlays_63 (by decide) ?_
  refine a_puti F fl_12_196 rfl rfl rfl rfl (by decide) rfl dX12_beginPlays_64 ?_
  refine a_aload_n F 0 dX12_beginPlays_67 rfl rfl ?_
  refine a_aload_n F 0 dX12_beginPlays_68 rfl rfl ?_
  refine a_callV (b := 0) (As := []) (st := [.ref 0]) (ci := 12) F (c_isOver (xl X) (up2 I 0 12 0) A J ) ml_12_163 im_yX12_isOver se_yX12_isOver (by decide) (by decide) rfl (by decide) rfl rfl dX12_beginPlays_69 (Nat.le_of_ble_eq_true rfl) (Nat.le_refl 0) (Nat.le_refl 0) (hl_r (by decide) (hl_i (hl_i (hl_i hl_nil)))) (hs_r (by decide) hs_nil) ?_
  rintro _ _ _ ⟨rfl, rfl, rfl⟩ _
  show WA X (mS (up2 I 0 12 0) A J) plM 0 0 72 [(0, .ref 0), (1, .int x1), (2, .int x2), (3, .int x3)] [.int (if (A 1) 0 = 15 ∨ (A 1) 26 = 15 then 1 else 0), .ref 0]
  refine a_ite (fun (c_4 : (A 1) 0 = 15 ∨ (A 1) 26 = 15) => ?_) (fun (c_4 : ¬ ((A 1) 0 = 15 ∨ (A 1) 26 = 15)) => ?_)
  · refine a_if_eq (tgt := 79) F dX12_beginPlays_72 (by decide) (fun (c_5 : (1 : Int32) = 0) => ?_) (fun (c_5 : ¬ ((1 : Int32) = 0)) => ?_)
    · exact absurd c_5 (by decide)
    · refine a_iconst (v := 0) F dX12_beginPlays_75 (by decide) ?_
      refine a_goto (tgt := 84) F dX12_beginPlays_76 (by decide) ?_
      refine a_puti F fl_12_185 rfl rfl rfl rfl (by decide) rfl dX12_beginPlays_84 ?_
      exact e_1 c_4
  · refine a_if_eq (tgt := 79) F dX12_beginPlays_72 (by decide) (fun (c_6 : (0 : Int32) = 0) => ?_) (fun (c_6 : ¬ ((0 : Int32) = 0)) => ?_)
    · refine a_aload_n F 0 dX12_beginPlays_79 rfl rfl ?_
      refine a_iconst (v := 0) F dX12_beginPlays_80 (by decide) ?_
      exact e_2 c_4
    · exact absurd c_6 (by decide)

theorem r_12_beginPlays_87 {X : Ctx} (F : Fx X cX12_beginPlays RX12 4 5 0 0) {Φ : Option Value → HS → List Nat → Prop} (E : Ex X none 0 0 Φ) {I A : Nat → Nat → Int32} {J : Nat → Nat → Int64} {x1 x2 x3 : Int32}
    (e_1 : (¬ (I 0 11) = 1) → Φ none (mS I A J) plM)
    (e_2 : ((I 0 11) = 1) → (¬ (I 0 9) = (I 0 10)) → WA X (mS I A J) plM 0 0 110 [(0, .ref 0), (1, .int x1), (2, .int x2), (3, .int 25)] [])
    (e_3 : ((I 0 11) = 1) → ((I 0 9) = (I 0 10)) → Φ none (mS I A J) plM) :
    WA X (mS I A J) plM 0 0 87 [(0, .ref 0), (1, .int x1), (2, .int x2), (3, .int x3)] [] := by
  refine a_aload_n F 0 dX12_beginPlays_87 rfl rfl ?_
  refine a_geti F fl_12_185 rfl (by decide) rfl dX12_beginPlays_88 ?_
  refine a_iconst (v := 1) F dX12_beginPlays_91 (by decide) ?_
  refine a_icmp_ne (tgt := 106) F dX12_beginPlays_92 (by decide) (fun (c_7 : ¬ (I 0 11) = 1) => ?_) (fun (c_7 : (I 0 11) = 1) => ?_)
  · exact a_vret F E dX12_beginPlays_106 (Nat.le_refl 0) (Nat.le_refl 0) (e_1 c_7)
  · refine a_aload_n F 0 dX12_beginPlays_95 rfl rfl ?_
    refine a_geti F fl_12_179 rfl (by decide) rfl dX12_beginPlays_96 ?_
    refine a_aload_n F 0 dX12_beginPlays_99 rfl rfl ?_
    refine a_geti F fl_12_182 rfl (by decide) rfl dX12_beginPlays_100 ?_
    refine a_icmp_ne (tgt := 107) F dX12_beginPlays_103 (by decide) (fun (c_8 : ¬ (I 0 9) = (I 0 10)) => ?_) (fun (c_8 : (I 0 9) = (I 0 10)) => ?_)
    · refine a_bipush (v := 25) F dX12_beginPlays_107 (by decide) ?_
      refine a_istore_n F dX12_beginPlays_109 rfl (by decide) rfl ?_
      refine a_sub [1, 2, 3, 0] rfl ?_
      exact e_2 c_7 c_8
    · exact a_vret F E dX12_beginPlays_106 (Nat.le_refl 0) (Nat.le_refl 0) (e_3 c_7 c_8)

theorem r_12_beginPlays_110 {X : Ctx} (F : Fx X cX12_beginPlays RX12 4 5 0 0) {Φ : Option Value → HS → List Nat → Prop} (E : Ex X none 0 0 Φ) {I A : Nat → Nat → Int32} {J : Nat → Nat → Int64} {x1 x2 x3 : Int32}
    (e_1 : (x3 ≤ 0) → Φ none (mS I A J) plM)
    (o_2 : (¬ (x3 ≤ 0)) → cmOK (A 3) (0 : Int32) (I 0 8) x3 (I 0 10))
    (e_3 : (¬ (x3 ≤ 0)) → (cmI (A 3) (0 : Int32) (I 0 8) x3 (I 0 10)) → WA X (mS (up2 I 0 12 (I 0 10)) A J) plM 0 0 110 [(0, .ref 0), (1, .int x1), (2, .int x2), (3, .int (x3 + (-1)))] [])
    (e_4 : (¬ (x3 ≤ 0)) → (¬ (cmI (A 3) (0 : Int32) (I 0 8) x3 (I 0 10))) → WA X (mS (up2 I 0 12 (I 0 12)) A J) plM 0 0 110 [(0, .ref 0), (1, .int x1), (2, .int x2), (3, .int (x3 + (-1)))] []) :
    WA X (mS I A J) plM 0 0 110 [(0, .ref 0), (1, .int x1), (2, .int x2), (3, .int x3)] [] := by
  refine a_iload_n F 3 dX12_beginPlays_110 rfl rfl ?_
  refine a_if_le (tgt := 148) F dX12_beginPlays_111 (by decide) (fun (c_9 : x3 ≤ 0) => ?_) (fun (c_9 : ¬ (x3 ≤ 0)) => ?_)
  · exact a_vret F E dX12_beginPlays_148 (Nat.le_refl 0) (Nat.le_refl 0) (e_1 c_9)
  · refine a_aload_n F 0 dX12_beginPlays_114 rfl rfl ?_
    refine a_aload_n F 0 dX12_beginPlays_115 rfl rfl ?_
    refine a_iconst (v := 0) F dX12_beginPlays_116 (by decide) ?_
    refine a_iload_n F 3 dX12_beginPlays_117 rfl rfl ?_
    refine a_aload_n F 0 dX12_beginPlays_118 rfl rfl ?_
    refine a_geti F fl_12_182 rfl (by decide) rfl dX12_beginPlays_119 ?_
    refine a_callV (b := 0) (As := [.int 0, .int x3, .int (I 0 10)]) (st := [.ref 0]) (ci := 12) F (c_canMoveI (xl X) I A J 0 x3 (I 0 10) (o_2 c_9)) ml_12_199 im_yX12_canMove se_yX12_canMove (by decide) (by decide) rfl (by decide) rfl rfl dX12_beginPlays_122 (Nat.le_of_ble_eq_true rfl) (Nat.le_refl 0) (Nat.le_refl 0) (hl_r (by decide) (hl_i (hl_i (hl_i hl_nil)))) (hs_r (by decide) hs_nil) ?_
    rintro _ _ _ ⟨rfl, rfl, rfl⟩ _
    show WA X (mS I A J) plM 0 0 125 [(0, .ref 0), (1, .int x1), (2, .int x2), (3, .int x3)] [.int (@ite Int32 (cmI (A 3) (0 : Int32) (I 0 8) x3 (I 0 10)) (Classical.propDecidable _) 1 0), .ref 0]
    refine a_ite (fun (c_10 : cmI (A 3) (0 : Int32) (I 0 8) x3 (I 0 10)) => ?_) (fun (c_10 : ¬ (cmI (A 3) (0 : Int32) (I 0 8) x3 (I 0 10))) => ?_)
    · refine a_if_eq (tgt := 135) F dX12_beginPlays_125 (by decide) (fun (c_11 : (1 : Int32) = 0) => ?_) (fun (c_11 : ¬ ((1 : Int32) = 0)) => ?_)
      · exact absurd c_11 (by decide)
      · refine a_aload_n F 0 dX12_beginPlays_128 rfl rfl ?_
        refine a_geti F fl_12_182 rfl (by decide) rfl dX12_beginPlays_129 ?_
        refine a_goto (tgt := 139) F dX12_beginPlays_132 (by decide) ?_
        refine a_puti F fl_12_196 rfl rfl rfl rfl (by decide) rfl dX12_beginPlays_139 ?_
        refine a_iinc (v := x3 + (-1)) F 3 dX12_beginPlays_142 rfl rfl (by decide) rfl ?_
        refine a_goto (tgt := 110) F dX12_beginPlays_145 (by decide) ?_
        refine a_sub [1, 2, 3, 0] rfl ?_
        exact e_3 c_9 c_10
    · refine a_if_eq (tgt := 135) F dX12_beginPlays_125 (by decide) (fun (c_12 : (0 : Int32) = 0) => ?_) (fun (c_12 : ¬ ((0 : Int32) = 0)) => ?_)
      · refine a_aload_n F 0 dX12_beginPlays_135 rfl rfl ?_
        refine a_geti F fl_12_196 rfl (by decide) rfl dX12_beginPlays_136 ?_
        refine a_puti F fl_12_196 rfl rfl rfl rfl (by decide) rfl dX12_beginPlays_139 ?_
        refine a_iinc (v := x3 + (-1)) F 3 dX12_beginPlays_142 rfl rfl (by decide) rfl ?_
        refine a_goto (tgt := 110) F dX12_beginPlays_145 (by decide) ?_
        refine a_sub [1, 2, 3, 0] rfl ?_
        exact e_4 c_9 c_10
      · exact absurd c_12 (by decide)

set_option maxRecDepth 10000 in
theorem c_beginPlays (l : Launch) (I A : Nat → Nat → Int32) (J : Nat → Nat → Int64) (a b m : Nat) (B0 : Nat → Nat) (ha : 1 ≤ a ∧ a ≤ 6) (hb : 1 ≤ b ∧ b ≤ 6) (hm : m ≤ 1) (h2 : I 0 2 = nI m) (hok : okB B0) (hB : bdR (A 1) 0 B0) : Con l 5 yX12_beginPlays cX12_beginPlays 4 none [.ref 0, .int (nI a), .int (nI b)] (mS I A J) plM 0 0 (bpQ I A J m (min a b) (max a b) B0) := by
  refine Con.of (by decide) (Nat.le_of_ble_eq_true rfl) (fun X hX9 hn9 F E => ?_)
  refine r_12_beginPlays_0 F ?_
  have emin : (if nI b ≤ nI a then nI b else nI a) = nI (min a b) := by
    by_cases c : b ≤ a
    · rw [if_pos ((nI_leI (by omega) (by omega)).mpr c)]; congr 1; omega
    · rw [if_neg (fun z => c ((nI_leI (by omega) (by omega)).mp z))]; congr 1; omega
  have emax : (if nI b ≤ nI a then nI a else nI b) = nI (max a b) := by
    by_cases c : b ≤ a
    · rw [if_pos ((nI_leI (by omega) (by omega)).mpr c)]; congr 1; omega
    · rw [if_neg (fun z => c ((nI_leI (by omega) (by omega)).mp z))]; congr 1; omega
  rw [emin, emax, h2]
  have hx : 1 ≤ min a b ∧ min a b ≤ 6 := by omega
  have hy : 1 ≤ max a b ∧ max a b ≤ 6 := by omega
  have i8 : up2 (up2 (up2 I 0 9 (nI (min a b))) 0 10 (nI (max a b))) 0 8 (nI m) 0 8 = nI m := up2_s
  have i9 : up2 (up2 (up2 I 0 9 (nI (min a b))) 0 10 (nI (max a b))) 0 8 (nI m) 0 9 = nI (min a b) := by rw [up2_k (by decide), up2_k (by decide), up2_s]
  have i10 : up2 (up2 (up2 I 0 9 (nI (min a b))) 0 10 (nI (max a b))) 0 8 (nI m) 0 10 = nI (max a b) := by rw [up2_k (by decide), up2_s]
  have io : fr8 I (up2 (up2 (up2 I 0 9 (nI (min a b))) 0 10 (nI (max a b))) 0 8 (nI m)) := fun k a b c _ _ => by rw [up2_k a, up2_k c, up2_k b]
  generalize up2 (up2 (up2 I 0 9 (nI (min a b))) 0 10 (nI (max a b))) 0 8 (nI m) = I1 at i8 i9 i10 io ⊢
  generalize min a b = x at hx i9 E ⊢
  generalize max a b = y at hy i10 E ⊢
  -- behind longest
  have tail : ∀ (x3 : Int32) (I' A' : Nat → Nat → Int32) (len : Nat), len ≤ 4 → (overB B0 → len = 0) → (¬ overB B0 → (∀ d B w, rchN m x y 0 (L0F x y) B0 d B w → d ≤ len) ∧ ∃ B w, rchN m x y 0 (L0F x y) B0 len B w) → I' 0 8 = nI m → I' 0 9 = nI x → I' 0 10 = nI y → I' 0 11 = nI len → I' 0 12 = 0 → fr8 I I' → FrO A A' → bdR (A' 3) 0 B0 → WA X (mS I' A' J) plM 0 0 87 [(0, .ref 0), (1, .int (nI a)), (2, .int (nI b)), (3, .int x3)] [] := by
    intro x3 I' A' len hl p1 p2 j8 j9 j10 j11 j12 fr fo hb3
    have done : ∀ (I2 : Nat → Nat → Int32) (g : Nat), fr8 I I2 → I2 0 8 = nI m → I2 0 9 = nI x → I2 0 10 = nI y → I2 0 11 = nI len → I2 0 12 = nI g → ((gP m x y B0 len ∧ g = y) ∨ (¬ gP m x y B0 len ∧ g = 0)) → bpQ I A J m x y B0 none (mS I2 A' J) plM := fun I2 g f e8 e9 e10 e11 e12 hg => ⟨I2, A', len, g, rfl, rfl, rfl, f, fo, e8, e9, e10, e11, e12, hb3, hl, p1, p2, hg⟩
    have l1 : I' 0 11 = 1 ↔ len = 1 := by rw [j11]; exact nI_eqn 1 (by omega) (by omega)
    have l2 : I' 0 9 = I' 0 10 ↔ x = y := by rw [j9, j10]; exact nI_eq (by omega) (by omega)
    refine r_12_beginPlays_87 F E (fun c => done I' 0 fr j8 j9 j10 j11 j12 (Or.inr ⟨fun z => c (l1.mpr z.1), rfl⟩)) (fun c1 c2 => ?_) (fun c1 c2 => done I' 0 fr j8 j9 j10 j11 j12 (Or.inr ⟨fun z => z.2.1 (l2.mp c2), rfl⟩))
    have loop : ∀ p (g : Nat), p ≤ 25 → (((∃ q, p < q ∧ q ≤ 25 ∧ cmP B0 m q y) ∧ g = y) ∨ ((¬ ∃ q, p < q ∧ q ≤ 25 ∧ cmP B0 m q y) ∧ g = 0)) → WA X (mS (up2 I' 0 12 (nI g)) A' J) plM 0 0 110 [(0, .ref 0), (1, .int (nI a)), (2, .int (nI b)), (3, .int (nI p))] [] := by
      intro p
      induction p with
      | zero =>
        intro g _ hg
        have h0 : nI 0 ≤ 0 := by decide
        refine r_12_beginPlays_110 F E (fun _ => ?_) (fun h => absurd h0 h) (fun h => absurd h0 h) (fun h => absurd h0 h)
        refine done (up2 I' 0 12 (nI g)) g (fun k k1 k2 k3 k4 k5 => by rw [up2_k k5]; exact fr k k1 k2 k3 k4 k5) (by rw [up2_k (by decide)]; exact j8) (by rw [up2_k (by decide)]; exact j9) (by rw [up2_k (by decide)]; exact j10) (by rw [up2_k (by decide)]; exact j11) up2_s ?_
        have ge : gP m x y B0 len ↔ ∃ q, 0 < q ∧ q ≤ 25 ∧ cmP B0 m q y := ⟨fun z => z.2.2, fun z => ⟨l1.mp c1, fun e => c2 (l2.mpr e), z⟩⟩
        exact hg.imp (fun z => ⟨ge.mpr z.1, z.2⟩) (fun z => ⟨fun w => z.1 (ge.mp w), z.2⟩)
      | succ p ih =>
        intro g hp hg
        have h0 : ¬ nI (p + 1) ≤ 0 := nI_nle (by omega) (by omega)
        have e8 : up2 I' 0 12 (nI g) 0 8 = nI m := by rw [up2_k (by decide)]; exact j8
        have e10 : up2 I' 0 12 (nI g) 0 10 = nI y := by rw [up2_k (by decide)]; exact j10
        have cm : cmI (A' 3) (0 : Int32) (nI m) (nI (p + 1)) (nI y) ↔ cmP B0 m (p + 1) y := cmI_n (a := 0) (by omega) hm (by omega) hy.2 hb3
        refine r_12_beginPlays_110 F E (fun h => absurd h h0) (fun _ => by rw [e8, e10]; exact ⟨0, m, p + 1, y, B0, rfl, rfl, rfl, rfl, by omega, hm, by omega, by omega, hy.1, hy.2, hb3⟩) (fun _ => ?_) (fun _ => ?_)
        · rw [e8, e10, cm]; intro c
          rw [nI_m1, up2_up2]
          exact ih y (by omega) (Or.inl ⟨⟨p + 1, by omega, by omega, c⟩, rfl⟩)
        · rw [e8, e10, cm]; intro c
          rw [nI_m1, up2_up2, up2_s]
          refine ih g (by omega) ?_
          have ge : (∃ q, p < q ∧ q ≤ 25 ∧ cmP B0 m q y) ↔ ∃ q, p + 1 < q ∧ q ≤ 25 ∧ cmP B0 m q y := by
            constructor
            · rintro ⟨q, q1, q2, q3⟩
              refine ⟨q, ?_, q2, q3⟩
              rcases Nat.lt_or_ge (p + 1) q with z | z
              · exact z
              · obtain rfl : q = p + 1 := by omega
                exact absurd q3 c
            · rintro ⟨q, q1, q2, q3⟩; exact ⟨q, by omega, q2, q3⟩
          exact hg.imp (fun z => ⟨ge.mpr z.1, z.2⟩) (fun z => ⟨fun w => z.1 (ge.mp w), z.2⟩)
    have := loop 25 0 (by omega) (Or.inr ⟨fun ⟨q, q1, q2, _⟩ => by omega, rfl⟩)
    rw [up2_at (show I' 0 12 = nI 0 from j12)] at this
    exact this
  have go62 : ∀ x3 : Int32, ∀ A' : Nat → Nat → Int32, FrO A A' → bdR (A' 3) 0 B0 → A' 1 = A 1 → WA X (mS I1 A' J) plM 0 0 62 [(0, .ref 0), (1, .int (nI a)), (2, .int (nI b)), (3, .int x3)] [] := by
    intro x3 A' fo hb3 e1
    have ov : (A' 1 0 = 15 ∨ A' 1 26 = 15) ↔ overB B0 := by
      rw [e1]; unfold overB
      have q0 := hB 0 (by omega); have q26 := hB 26 (by omega)
      rw [show A 1 0 = nI (B0 0) from q0.1, show A 1 26 = nI (B0 26) by rw [show (26 : Nat) = 0 + 26 from rfl]; exact q26.1, nI_eqn 15 (by omega) (by omega), nI_eqn 15 (by omega) (by omega)]
    refine r_12_beginPlays_62 F (fun c => ?_) (fun c => ?_)
    · refine tail x3 _ A' 0 (by omega) (fun _ => rfl) (fun z => absurd (ov.mp c) z) ?_ ?_ ?_ up2_s ?_ ?_ fo hb3
      · rw [up2_k (by decide), up2_k (by decide)]; exact i8
      · rw [up2_k (by decide), up2_k (by decide)]; exact i9
      · rw [up2_k (by decide), up2_k (by decide)]; exact i10
      · rw [up2_k (by decide), up2_s]
      · intro k k1 k2 k3 k4 k5; rw [up2_k k4, up2_k k5]; exact io k k1 k2 k3 k4 k5
    · have nov : ¬ overB B0 := fun z => c (ov.mpr z)
      refine a_callV (b := 0) (As := [.int 0]) (st := [.ref 0]) (ci := 12) F (c_walk (xl X) (up2 I1 0 12 0) A' J m x y 0 0 0 B0 hm (by rw [up2_k (by decide)]; exact i8) (by rw [up2_k (by decide)]; exact i9) (by rw [up2_k (by decide)]; exact i10) up2_s hx hy (by omega) (by omega) (fun z => by omega) (fun z => by omega) hok hb3) ml_12_210 im_yX12_walk se_yX12_walk (by decide) (by decide) rfl (by decide) rfl rfl dX12_beginPlays_81 (Nat.le_of_ble_eq_true rfl) (Nat.le_refl 0) (Nat.le_refl 0) (hl_r (by decide) (hl_i (hl_i (hl_i hl_nil)))) (hs_r (by decide) hs_nil) ?_
      rintro _ _ _ ⟨I2, A2, best, rfl, rfl, rfl, f1, f2, f3, f16, b4, bl, bx, -⟩ _
      show WA X (mS I2 A2 J) plM 0 0 84 [(0, .ref 0), (1, .int (nI a)), (2, .int (nI b)), (3, .int x3)] [.int (nI best), .ref 0]
      refine a_puti F fl_12_185 rfl rfl rfl rfl (by decide) rfl dX12_beginPlays_84 ?_
      have hL0 : L0F x y ≤ 4 := by unfold L0F; split <;> omega
      have fi : ∀ k, k ≠ 11 → k ≠ 12 → up2 I2 0 11 (nI best) 0 k = I1 0 k := fun k k1 k2 => by
        rw [up2_k k1]
        by_cases z : k = 16
        · subst z; rw [f16 rfl, up2_k (by decide)]
        · rw [f1.at z, up2_k k2]
      refine tail x3 _ A2 best b4 (fun z => absurd z nov) (fun _ => ⟨fun d B w hr => bl d B w ?_ hr, bx⟩) ?_ ?_ ?_ up2_s ?_ ?_ (fo.tr f2) (fun k hk => by rw [Nat.zero_add, f3 k hk]; have := hb3 k hk; rw [Nat.zero_add] at this; exact this)
      · obtain ⟨L, hr⟩ := hr
        have := (Rch_ok hm hx hy _ _ _ _ _ _ _ _ hr (by omega) hok ⟨by decide, Nat.zero_mod _⟩).1
        right; unfold limF; rw [if_neg (by decide)]; omega
      · rw [fi 8 (by decide) (by decide)]; exact i8
      · rw [fi 9 (by decide) (by decide)]; exact i9
      · rw [fi 10 (by decide) (by decide)]; exact i10
      · rw [up2_k (by decide)]; show I2 0 12 = 0; rw [f1.at (by decide), up2_s]
      · intro k k1 k2 k3 k4 k5; rw [fi k k4 k5]; exact io k k1 k2 k3 k4 k5
  have loop : ∀ f i, i + f = 52 → WA X (mS I1 (up1 A 3 (fillF (A 3) i (A 1))) J) plM 0 0 38 [(0, .ref 0), (1, .int (nI a)), (2, .int (nI b)), (3, .int (nI i))] [] := by
    intro f
    induction f with
    | zero =>
      intro i hi
      obtain rfl : i = 52 := by omega
      have h52 : (52 : Int32) ≤ nI 52 := nI_le (a := 52) (b := 52) (by omega) (by omega)
      refine r_12_beginPlays_38 F (fun _ => ?_) (fun h => absurd h52 h) (fun h => absurd h52 h) (fun h => absurd h52 h)
      refine go62 _ _ (fun q q1 q2 q3 q4 q5 q6 q7 q8 => up1_p q1) (fun k hk => ?_) (up1_p (by decide))
      rw [up1_s, Nat.zero_add, fill_in hk]; have := hB k hk; rw [Nat.zero_add] at this; exact this
    | succ f ih =>
      intro i hi
      have h52 : ¬ (52 : Int32) ≤ nI i := nI_ge (b := 52) (by omega) (by omega)
      refine r_12_beginPlays_38 F (fun h => absurd h h52) (fun _ => vp_in_nI (by omega) (by omega)) (fun _ => vp_in_nI (by omega) (by omega)) (fun _ => ?_)
      rw [nI_clamp (by omega), nI_1, up1_s, up1_p (show (1 : Nat) ≠ 3 by decide), up1_up1, fill_s]
      exact ih (i + 1) (by omega)
  have := loop 52 0 rfl
  rw [fill_0, up1_id] at this
  exact this

theorem r_12_findResults_0 {X : Ctx} (F : Fx X cX12_findResults RX12 3 6 0 0) {I A : Nat → Nat → Int32} {J : Nat → Nat → Int64} {x1 x2 : Int32}
    (e_1 : WA X (mS I A J) plM 0 0 3 [(0, .ref 0), (1, .int x1), (2, .int x2)] [.int x2, .int x1, .ref 0]) :
    WA X (mS I A J) plM 0 0 0 [(0, .ref 0), (1, .int x1), (2, .int x2)] [] := by
  refine a_aload_n F 0 dX12_findResults_0 rfl rfl ?_
  refine a_iload_n F 1 dX12_findResults_1 rfl rfl ?_
  refine a_iload_n F 2 dX12_findResults_2 rfl rfl ?_
  exact e_1

theorem r_12_findResults_6 {X : Ctx} (F : Fx X cX12_findResults RX12 3 6 0 0) {I A : Nat → Nat → Int32} {J : Nat → Nat → Int64} {x1 x2 : Int32}
    (e_1 : WA X (mS (up2 (up2 I 0 16 0) 0 17 (I 0 11)) A J) plM 0 0 21 [(0, .ref 0), (1, .int x1), (2, .int x2)] [.int 1, .ref 0]) :
    WA X (mS I A J) plM 0 0 6 [(0, .ref 0), (1, .int x1), (2, .int x2)] [] := by
  refine a_aload_n F 0 dX12_findResults_6 rfl rfl ?_
  refine a_iconst (v := 0) F dX12_findResults_7 (by decide) ?_
  refine a_puti F fl_12_152 rfl rfl rfl rfl (by decide) rfl dX12_findResults_8 ?_
  refine a_aload_n F 0 dX12_findResults_11 rfl rfl ?_
  refine a_aload_n F 0 dX12_findResults_12 rfl rfl ?_
  refine a_geti F fl_12_185 rfl (by decide) rfl dX12_findResults_13 ?_
  refine a_puti F fl_12_224 rfl rfl rfl rfl (by decide) rfl dX12_findResults_16 ?_
  refine a_aload_n F 0 dX12_findResults_19 rfl rfl ?_
  refine a_iconst (v := 1) F dX12_findResults_20 (by decide) ?_
  exact e_1

theorem r_12_findResults_25 {X : Ctx} (F : Fx X cX12_findResults RX12 3 6 0 0) {Φ : Option Value → HS → List Nat → Prop} (E : Ex X none 0 0 Φ) {I A : Nat → Nat → Int32} {J : Nat → Nat → Int64} {x1 x2 : Int32}
    (e_1 : Φ none (mS I A J) plM) :
    WA X (mS I A J) plM 0 0 25 [(0, .ref 0), (1, .int x1), (2, .int x2)] [] := by
  exact a_vret F E dX12_findResults_25 (Nat.le_refl 0) (Nat.le_refl 0) (e_1)

set_option maxRecDepth 10000 in
theorem c_findResults (l : Launch) (I A : Nat → Nat → Int32) (J : Nat → Nat → Int64) (a b m : Nat) (B0 : Nat → Nat) (ha : 1 ≤ a ∧ a ≤ 6) (hb : 1 ≤ b ∧ b ≤ 6) (hm : m ≤ 1) (h2 : I 0 2 = nI m) (hok : okB B0) (hB : bdR (A 1) 0 B0) : Con l 6 yX12_findResults cX12_findResults 3 none [.ref 0, .int (nI a), .int (nI b)] (mS I A J) plM 0 0 (frQ I A J m (min a b) (max a b) B0) := by
  refine Con.of (by decide) (Nat.le_of_ble_eq_true rfl) (fun X hX9 hn9 F E => ?_)
  have hx : 1 ≤ min a b ∧ min a b ≤ 6 := by omega
  have hy : 1 ≤ max a b ∧ max a b ≤ 6 := by omega
  refine r_12_findResults_0 F ?_
  refine a_callV (b := 0) (As := [.int (nI a), .int (nI b)]) (st := []) (ci := 12) F (c_beginPlays (xl X) I A J a b m B0 ha hb hm h2 hok hB) ml_12_220 im_yX12_beginPlays se_yX12_beginPlays (by decide) (by decide) rfl (by decide) rfl rfl dX12_findResults_3 (by decide) (Nat.le_refl 0) (Nat.le_refl 0) (hl_r (by decide) (hl_i (hl_i hl_nil))) hs_nil ?_
  rintro _ _ _ ⟨I1, A1, len, g, rfl, rfl, rfl, f1, f2, e8, e9, e10, e11, e12, hb3, hp⟩ _
  show WA X (mS I1 A1 J) plM 0 0 6 [(0, .ref 0), (1, .int (nI a)), (2, .int (nI b))] []
  refine r_12_findResults_6 F ?_
  have hg : g ≤ 6 := by rcases hp.2.2.2 with z | z <;> omega
  have k8 : ∀ k, k ≠ 16 → k ≠ 17 → up2 (up2 I1 0 16 0) 0 17 (I1 0 11) 0 k = I1 0 k := fun k k1 k2 => by rw [up2_k k2, up2_k k1]
  have k16 : up2 (up2 I1 0 16 0) 0 17 (I1 0 11) 0 16 = 0 := by rw [up2_k (by decide), up2_s]
  have k17 : up2 (up2 I1 0 16 0) 0 17 (I1 0 11) 0 17 = nI len := by rw [up2_s]; exact e11
  generalize up2 (up2 I1 0 16 0) 0 17 (I1 0 11) = I2 at k8 k16 k17 ⊢
  refine a_callV (b := 0) (As := [.int 1]) (st := []) (ci := 12) F (c_walk (xl X) I2 A1 J m (min a b) (max a b) g 1 len B0 hm (by rw [k8 8 (by decide) (by decide)]; exact e8) (by rw [k8 9 (by decide) (by decide)]; exact e9) (by rw [k8 10 (by decide) (by decide)]; exact e10) (by rw [k8 12 (by decide) (by decide)]; exact e12) hx hy hg (by omega) (fun _ => ⟨by rw [k8 11 (by decide) (by decide)]; exact e11, hp.1, k16⟩) (fun _ S hS cnt T W ht => few hm hx hy hok hS ht) hok hb3) ml_12_210 im_yX12_walk se_yX12_walk (by decide) (by decide) rfl (by decide) rfl rfl dX12_findResults_21 (by decide) (Nat.le_refl 0) (Nat.le_refl 0) (hl_r (by decide) (hl_i (hl_i hl_nil))) hs_nil ?_
  rintro _ _ _ ⟨I3, A3, best, rfl, rfl, rfl, g1, g2, g3, -, -, -, -, gt⟩ _
  refine a_pop F dX12_findResults_24 rfl ?_
  refine r_12_findResults_25 F E ?_
  refine ⟨I3, A3, len, g, rfl, rfl, rfl, fun k k1 k2 k3 k4 k5 k6 k7 => by rw [g1.at k1, k8 k k1 k2]; exact f1 k k3 k4 k5 k6 k7, f2.tr g2, ⟨by rw [g1.at (by decide), k8 8 (by decide) (by decide)]; exact e8, by rw [g1.at (by decide), k8 9 (by decide) (by decide)]; exact e9, by rw [g1.at (by decide), k8 10 (by decide) (by decide)]; exact e10, by rw [g1.at (by decide), k8 11 (by decide) (by decide)]; exact e11, by rw [g1.at (by decide), k8 12 (by decide) (by decide)]; exact e12, fun k hk => by rw [Nat.zero_add, g3 k hk]; have := hb3 k hk; rw [Nat.zero_add] at this; exact this, hp⟩, by rw [g1.at (by decide)]; exact k17, gt rfl⟩
