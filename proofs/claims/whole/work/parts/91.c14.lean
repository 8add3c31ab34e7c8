theorem rep_per {α : Type} {fr : Nat → α} {o s : Nat} (hs : 0 < s) : ∀ i j, j < s + i → repF fr o s i (o + j) = fr (o + j % s)
  | 0, j, h => by show fr (o + j) = _; rw [Nat.mod_eq_of_lt (by omega)]
  | i + 1, j, h => by
    show va_up (repF fr o s i) (o + s + i) (repF fr o s i (o + i)) (o + j) = _
    by_cases c : j = s + i
    · subst c
      have e := rep_per hs (fr := fr) (o := o) i i (by omega)
      simp only [va_up]; rw [if_pos (by omega), e]; congr 2; rw [Nat.add_mod_left]
    · have e := rep_per hs (fr := fr) (o := o) i j (by omega)
      simp only [va_up]; rw [if_neg (by omega), e]
theorem rep_add {mv : MV} {o s i k : Nat} (hs : k < s) (hi : i % s = k) : mvRep mv o s (i + 1) = mvAdd (mvRep mv o s i) (mv.2.1 (o + k)) (mv.2.2.1 (o + k)) false := by
  have e1 := rep_per (fr := mv.2.1) (o := o) (s := s) (by omega) i i (by omega)
  have e2 := rep_per (fr := mv.2.2.1) (o := o) (s := s) (by omega) i i (by omega)
  rw [hi] at e1 e2
  rw [← e1, ← e2]; rfl
def tmQ (P O : Nat → Nat → Option Nat) (I A : Nat → Nat → Int32) (J : Nat → Nat → Int64) (pl : List Nat) (n sz : Nat) (res : Except (Nat × Nat) (Nat × MV)) : Option Value → HS → List Nat → Prop := fun rv σ' pl' => pl = pl' ∧ ∃ I' A', σ' = mC P O I' A' J ∧ FrT I I' ∧ (∀ q, q ≠ 107 → q ≠ 108 → q ≠ 109 → A' q = A q) ∧
  match res with
  | .error fp => rv = some (.int 0) ∧ I' 104 7 = nI fp.1 ∧ I' 104 8 = nI fp.2
  | .ok r => rv = some (.int 1) ∧ AtC I' (A 121) n r.1 sz ∧ I' 104 7 = I 104 7 ∧ I' 104 8 = I 104 8 ∧ mvC I' A' r.2
def tmI (I A I' A' : Nat → Nat → Int32) (T : Nat → Int32) (n q2 sz N : Nat) (mv : MV) : Prop := FrT I I' ∧ (∀ q, q ≠ 107 → q ≠ 108 → q ≠ 109 → A' q = A q) ∧ AtC I' T n q2 sz ∧ I' 104 7 = I 104 7 ∧ I' 104 8 = I 104 8 ∧ I' 104 6 = nI N ∧ mvC I' A' mv

theorem r_9_readTimes_0 {X : Ctx} (F : Fx X cX9_readTimes RX9 5 8 0 0) {Φ : Option Value → HS → List Nat → Prop} (E : Ex X (some .boolean) 0 0 Φ) {P O : Nat → Nat → Option Nat} (hP : laP P) {I A : Nat → Nat → Int32} {J : Nat → Nat → Int64} {pl : List Nat} (hB : inB pl) {x1 : Int32}
    (o_1 : okRd I)
    (e_2 : (nuP (rgI I (A 121)) (2 : Int32) (4 : Int32)) → WA X (mC P O (nuI (rgI I (A 121)) (2 : Int32) (4 : Int32)) A J) pl 0 0 21 [(0, .ref 106), (1, .int x1)] [])
    (e_3 : (¬ (nuP (rgI I (A 121)) (2 : Int32) (4 : Int32))) → Φ (some (.int 0)) (mC P O (nuI (rgI I (A 121)) (2 : Int32) (4 : Int32)) A J) pl) :
    WA X (mC P O I A J) pl 0 0 0 [(0, .ref 106), (1, .int x1)] [] := by
  refine a_aload_n F 0 dX9_readTimes_0 rfl rfl ?_
  refine a_getr (b := 104) F fl_9_29 rfl (hB _ (by decide)) rfl ((hP 106 0 (by decide)).trans rfl) dX9_readTimes_1 ?_
  refine a_callV (b := 104) (As := []) (st := []) (ci := 5) F (c_5_readI (xl X) hP I A J hB (o_1)) ml_9_60 im_yX5_read se_yX5_read (by decide) (by decide) rfl (hB _ (by decide)) rfl rfl dX9_readTimes_4 (by decide) (Nat.le_refl 0) (Nat.le_refl 0) (hl_r (hB _ (by decide)) (hl_i hl_nil)) hs_nil ?_
  rintro _ _ _ ⟨rfl, rfl, rfl⟩ _
  show WA X (mC P O (rgI I (A 121)) A J) pl 0 0 7 [(0, .ref 106), (1, .int x1)] []
  refine a_aload_n F 0 dX9_readTimes_7 rfl rfl ?_
  refine a_getr (b := 104) F fl_9_29 rfl (hB _ (by decide)) rfl ((hP 106 0 (by decide)).trans rfl) dX9_readTimes_8 ?_
  refine a_iconst (v := 2) F dX9_readTimes_11 (by decide) ?_
  refine a_iconst (v := 4) F dX9_readTimes_12 (by decide) ?_
  refine a_callV (b := 104) (As := [.int 2, .int 4]) (st := []) (ci := 5) F (c_5_isNumber (xl X) hP (rgI I (A 121)) A J hB (2 : Int32) (4 : Int32)) ml_9_63 im_yX5_isNumber se_yX5_isNumber (by decide) (by decide) rfl (hB _ (by decide)) rfl rfl dX9_readTimes_13 (by decide) (Nat.le_refl 0) (Nat.le_refl 0) (hl_r (hB _ (by decide)) (hl_i hl_nil)) hs_nil ?_
  rintro _ _ _ ⟨rfl, rfl, rfl⟩ _
  show WA X (mC P O (nuI (rgI I (A 121)) (2 : Int32) (4 : Int32)) A J) pl 0 0 16 [(0, .ref 106), (1, .int x1)] [.int (@ite Int32 (nuP (rgI I (A 121)) (2 : Int32) (4 : Int32)) (Classical.propDecidable _) 1 0)]
  refine a_ite (fun (c_1 : nuP (rgI I (A 121)) (2 : Int32) (4 : Int32)) => ?_) (fun (c_1 : ¬ (nuP (rgI I (A 121)) (2 : Int32) (4 : Int32))) => ?_)
  · refine a_if_ne (tgt := 21) F dX9_readTimes_16 (by decide) (fun (c_2 : ¬ (1 : Int32) = 0) => ?_) (fun (c_2 : (1 : Int32) = 0) => ?_)
    · exact e_2 c_1
    · exact absurd c_2 (by decide)
  · refine a_if_ne (tgt := 21) F dX9_readTimes_16 (by decide) (fun (c_3 : ¬ (0 : Int32) = 0) => ?_) (fun (c_3 : (0 : Int32) = 0) => ?_)
    · exact absurd c_3 (by decide)
    · refine a_iconst (v := 0) F dX9_readTimes_19 (by decide) ?_
      exact a_zret F E (by decide) dX9_readTimes_20 (Nat.le_refl 0) (Nat.le_refl 0) (e_3 c_1)

theorem r_9_readTimes_21 {X : Ctx} (F : Fx X cX9_readTimes RX9 5 8 0 0) {Φ : Option Value → HS → List Nat → Prop} (E : Ex X (some .boolean) 0 0 Φ) {P O : Nat → Nat → Option Nat} (hP : laP P) {I A : Nat → Nat → Int32} {J : Nat → Nat → Int64} {pl : List Nat} (hB : inB pl) {x1 : Int32}
    (e_1 : (((I 106 5) + (((I 106 5) - x1) * ((I 104 6) - 1))) ≤ 8) → WA X (mC P O I A J) pl 0 0 56 [(0, .ref 106), (1, .int x1), (2, .int (I 106 5))] [])
    (e_2 : (¬ (((I 106 5) + (((I 106 5) - x1) * ((I 104 6) - 1))) ≤ 8)) → Φ (some (.int 0)) (mC P O (faI I (7 : Int32)) A J) pl) :
    WA X (mC P O I A J) pl 0 0 21 [(0, .ref 106), (1, .int x1)] [] := by
  refine a_aload_n F 0 dX9_readTimes_21 rfl rfl ?_
  refine a_geti F fl_9_91 rfl (hB _ (by decide)) rfl dX9_readTimes_22 ?_
  refine a_istore_n F dX9_readTimes_25 rfl (by decide) rfl ?_
  refine a_iload_n F 0 dX9_readTimes_26 rfl rfl ?_
  refine a_iload_n F 0 dX9_readTimes_27 rfl rfl ?_
  refine a_iload_n F 2 dX9_readTimes_28 rfl rfl ?_
  refine a_isub F dX9_readTimes_29 ?_
  refine a_aload_n F 1 dX9_readTimes_30 rfl rfl ?_
  refine a_getr (b := 104) F fl_9_29 rfl (hB _ (by decide)) rfl ((hP 106 0 (by decide)).trans rfl) dX9_readTimes_31 ?_
  refine a_geti F fl_9_67 rfl (hB _ (by decide)) rfl dX9_readTimes_34 ?_
  refine a_iconst (v := 1) F dX9_readTimes_37 (by decide) ?_
  refine a_isub F dX9_readTimes_38 ?_
  refine a_imul F dX9_readTimes_39 ?_
  refine a_iadd F dX9_readTimes_40 ?_
  refine a_bipush (v := 8) F dX9_readTimes_41 (by decide) ?_
  refine a_icmp_le (tgt := 56) F dX9_readTimes_43 (by decide) (fun (c_4 : ((I 106 5) + (((I 106 5) - x1) * ((I 104 6) - 1))) ≤ 8) => ?_) (fun (c_4 : ¬ (((I 106 5) + (((I 106 5) - x1) * ((I 104 6) - 1))) ≤ 8)) => ?_)
  · refine a_sub [1, 2, 0] rfl ?_
    exact e_1 c_4
  · refine a_aload_n F 1 dX9_readTimes_46 rfl rfl ?_
    refine a_getr (b := 104) F fl_9_29 rfl (hB _ (by decide)) rfl ((hP 106 0 (by decide)).trans rfl) dX9_readTimes_47 ?_
    refine a_bipush (v := 7) F dX9_readTimes_50 (by decide) ?_
    refine a_callV (b := 104) (As := [.int 7]) (st := []) (ci := 5) F (c_5_fail (xl X) hP I A J hB (7 : Int32)) ml_9_75 im_yX5_fail se_yX5_fail (by decide) (by decide) rfl (hB _ (by decide)) rfl rfl dX9_readTimes_52 (by decide) (Nat.le_refl 0) (Nat.le_refl 0) (hl_i (hl_r (hB _ (by decide)) (hl_i hl_nil))) hs_nil ?_
    rintro _ _ _ ⟨rfl, rfl, rfl⟩ _
    show WA X (mC P O (faI I (7 : Int32)) A J) pl 0 0 55 [(2, .int (I 106 5)), (0, .ref 106), (1, .int x1)] [.int 0]
    exact a_zret F E (by decide) dX9_readTimes_55 (Nat.le_refl 0) (Nat.le_refl 0) (e_2 c_4)

theorem r_9_readTimes_56 {X : Ctx} (F : Fx X cX9_readTimes RX9 5 8 0 0) {P O : Nat → Nat → Option Nat} (hP : laP P) {I A : Nat → Nat → Int32} {J : Nat → Nat → Int64} {pl : List Nat} (hB : inB pl) {x1 x2 : Int32}
    (e_1 : WA X (mC P O I A J) pl 0 0 58 [(0, .ref 106), (1, .int x1), (2, .int x2), (3, .int 1)] []) :
    WA X (mC P O I A J) pl 0 0 56 [(0, .ref 106), (1, .int x1), (2, .int x2)] [] := by
  refine a_iconst (v := 1) F dX9_readTimes_56 (by decide) ?_
  refine a_istore_n F dX9_readTimes_57 rfl (by decide) rfl ?_
  refine a_sub [1, 2, 3, 0] rfl ?_
  exact e_1

theorem r_9_readTimes_58 {X : Ctx} (F : Fx X cX9_readTimes RX9 5 8 0 0) {P O : Nat → Nat → Option Nat} (hP : laP P) {I A : Nat → Nat → Int32} {J : Nat → Nat → Int64} {pl : List Nat} (hB : inB pl) {x1 x2 x3 : Int32}
    (e_1 : ((I 104 6) ≤ x3) → WA X (mC P O I A J) pl 0 0 109 [(0, .ref 106), (1, .int x1), (2, .int x2), (3, .int x3)] [])
    (e_2 : (¬ ((I 104 6) ≤ x3)) → WA X (mC P O I A J) pl 0 0 72 [(0, .ref 106), (1, .int x1), (2, .int x2), (3, .int x3), (4, .int x1)] []) :
    WA X (mC P O I A J) pl 0 0 58 [(0, .ref 106), (1, .int x1), (2, .int x2), (3, .int x3)] [] := by
  refine a_iload_n F 3 dX9_readTimes_58 rfl rfl ?_
  refine a_aload_n F 0 dX9_readTimes_59 rfl rfl ?_
  refine a_getr (b := 104) F fl_9_29 rfl (hB _ (by decide)) rfl ((hP 106 0 (by decide)).trans rfl) dX9_readTimes_60 ?_
  refine a_geti F fl_9_67 rfl (hB _ (by decide)) rfl dX9_readTimes_63 ?_
  refine a_icmp_ge (tgt := 109) F dX9_readTimes_66 (by decide) (fun (c_5 : (I 104 6) ≤ x3) => ?_) (fun (c_5 : ¬ ((I 104 6) ≤ x3)) => ?_)
  · exact e_1 c_5
  · refine a_iload_n F 1 dX9_readTimes_69 rfl rfl ?_
    refine a_istore F dX9_readTimes_70 (by decide) rfl ?_
    refine a_sub [1, 2, 3, 4, 0] rfl ?_
    exact e_2 c_5

theorem r_9_readTimes_72 {X : Ctx} (F : Fx X cX9_readTimes RX9 5 8 0 0) {P O : Nat → Nat → Option Nat} (hP : laP P) {I A : Nat → Nat → Int32} {J : Nat → Nat → Int64} {pl : List Nat} (hB : inB pl) {x1 x2 x3 x4 : Int32}
    (e_1 : (x2 ≤ x4) → WA X (mC P O I A J) pl 0 0 58 [(0, .ref 106), (1, .int x1), (2, .int x2), (3, .int (x3 + 1))] [])
    (o_2 : (¬ (x2 ≤ x4)) → vp_in x4 8)
    (o_3 : (¬ (x2 ≤ x4)) → vp_in x4 8)
    (o_4 : (¬ (x2 ≤ x4)) → adO I)
    (e_5 : (¬ (x2 ≤ x4)) → WA X (mC P O (adI I) (adA A (I 106 5) (A 107 x4.toNatClampNeg) (A 108 x4.toNatClampNeg) (0 : Int32)) J) pl 0 0 72 [(0, .ref 106), (1, .int x1), (2, .int x2), (3, .int x3), (4, .int (x4 + 1))] []) :
    WA X (mC P O I A J) pl 0 0 72 [(0, .ref 106), (1, .int x1), (2, .int x2), (3, .int x3), (4, .int x4)] [] := by
  refine a_iload F 4 dX9_readTimes_72 rfl ?_
  refine a_iload_n F 2 dX9_readTimes_74 rfl rfl ?_
  refine a_icmp_ge (tgt := 103) F dX9_readTimes_75 (by decide) (fun (c_6 : x2 ≤ x4) => ?_) (fun (c_6 : ¬ (x2 ≤ x4)) => ?_)
  · refine a_iinc (v := x3 + 1) F 3 dX9_readTimes_103 rfl rfl (by decide) rfl ?_
    refine a_goto (tgt := 58) F dX9_readTimes_106 (by decide) ?_
    refine a_sub [1, 2, 3, 0] rfl ?_
    exact e_1 c_6
  · refine a_aload_n F 0 dX9_readTimes_78 rfl rfl ?_
    refine a_aload_n F 0 dX9_readTimes_79 rfl rfl ?_
    refine a_getr (b := 107) F fl_9_18 rfl (hB _ (by decide)) rfl ((hP 106 2 (by decide)).trans rfl) dX9_readTimes_80 ?_
    refine a_iload F 4 dX9_readTimes_83 rfl ?_
    refine a_iald F (hB _ (by decide)) rfl (o_2 c_6) dX9_readTimes_85 ?_
    refine a_aload_n F 0 dX9_readTimes_86 rfl rfl ?_
    refine a_getr (b := 108) F fl_9_22 rfl (hB _ (by decide)) rfl ((hP 106 3 (by decide)).trans rfl) dX9_readTimes_87 ?_
    refine a_iload F 4 dX9_readTimes_90 rfl ?_
    refine a_iald F (hB _ (by decide)) rfl (o_3 c_6) dX9_readTimes_92 ?_
    refine a_iconst (v := 0) F dX9_readTimes_93 (by decide) ?_
    refine a_callV (b := 106) (As := [.int (A 107 x4.toNatClampNeg), .int (A 108 x4.toNatClampNeg), .int 0]) (st := []) (ci := 9) F (c_9_addMove (xl X) hP I A J hB (A 107 x4.toNatClampNeg) (A 108 x4.toNatClampNeg) (0 : Int32) (o_4 c_6)) ml_9_111 im_yX9_addMove se_yX9_addMove (by decide) (by decide) rfl (hB _ (by decide)) rfl rfl dX9_readTimes_94 (by decide) (Nat.le_refl 0) (Nat.le_refl 0) (hl_r (hB _ (by decide)) (hl_i (hl_i (hl_i (hl_i hl_nil))))) hs_nil ?_
    rintro _ _ _ ⟨rfl, rfl, rfl⟩ _
    show WA X (mC P O (adI I) (adA A (I 106 5) (A 107 x4.toNatClampNeg) (A 108 x4.toNatClampNeg) (0 : Int32)) J) pl 0 0 97 [(0, .ref 106), (1, .int x1), (2, .int x2), (3, .int x3), (4, .int x4)] []
    refine a_iinc (v := x4 + 1) F 4 dX9_readTimes_97 rfl rfl (by decide) rfl ?_
    refine a_goto (tgt := 72) F dX9_readTimes_100 (by decide) ?_
    refine a_sub [1, 2, 3, 4, 0] rfl ?_
    exact e_5 c_6

theorem r_9_readTimes_109 {X : Ctx} (F : Fx X cX9_readTimes RX9 5 8 0 0) {Φ : Option Value → HS → List Nat → Prop} (E : Ex X (some .boolean) 0 0 Φ) {P O : Nat → Nat → Option Nat} (hP : laP P) {I A : Nat → Nat → Int32} {J : Nat → Nat → Int64} {pl : List Nat} (hB : inB pl) {x1 x2 x3 : Int32}
    (o_1 : okRd I)
    (o_2 : okRd (rgI I (A 121)))
    (e_3 : (sgP (rgI I (A 121)) (41 : Int32)) → Φ (some (.int 1)) (mC P O (psI (rgI I (A 121)) (A 121) (41 : Int32)) A J) pl)
    (e_4 : (¬ (sgP (rgI I (A 121)) (41 : Int32))) → Φ (some (.int 0)) (mC P O (psI (rgI I (A 121)) (A 121) (41 : Int32)) A J) pl) :
    WA X (mC P O I A J) pl 0 0 109 [(0, .ref 106), (1, .int x1), (2, .int x2), (3, .int x3)] [] := by
  refine a_aload_n F 0 dX9_readTimes_109 rfl rfl ?_
  refine a_getr (b := 104) F fl_9_29 rfl (hB _ (by decide)) rfl ((hP 106 0 (by decide)).trans rfl) dX9_readTimes_110 ?_
  refine a_callV (b := 104) (As := []) (st := []) (ci := 5) F (c_5_readI (xl X) hP I A J hB (o_1)) ml_9_60 im_yX5_read se_yX5_read (by decide) (by decide) rfl (hB _ (by decide)) rfl rfl dX9_readTimes_113 (by decide) (Nat.le_refl 0) (Nat.le_refl 0) (hl_r (hB _ (by decide)) (hl_i (hl_i (hl_i hl_nil)))) hs_nil ?_
  rintro _ _ _ ⟨rfl, rfl, rfl⟩ _
  show WA X (mC P O (rgI I (A 121)) A J) pl 0 0 116 [(0, .ref 106), (1, .int x1), (2, .int x2), (3, .int x3)] []
  refine a_aload_n F 0 dX9_readTimes_116 rfl rfl ?_
  refine a_getr (b := 104) F fl_9_29 rfl (hB _ (by decide)) rfl ((hP 106 0 (by decide)).trans rfl) dX9_readTimes_117 ?_
  refine a_bipush (v := 41) F dX9_readTimes_120 (by decide) ?_
  refine a_callV (b := 104) (As := [.int 41]) (st := []) (ci := 5) F (c_5_passSign (xl X) hP (rgI I (A 121)) A J hB (41 : Int32) (o_2)) ml_9_46 im_yX5_passSign se_yX5_passSign (by decide) (by decide) rfl (hB _ (by decide)) rfl rfl dX9_readTimes_122 (by decide) (Nat.le_refl 0) (Nat.le_refl 0) (hl_r (hB _ (by decide)) (hl_i (hl_i (hl_i hl_nil)))) hs_nil ?_
  rintro _ _ _ ⟨rfl, rfl, rfl⟩ _
  show WA X (mC P O (psI (rgI I (A 121)) (A 121) (41 : Int32)) A J) pl 0 0 125 [(0, .ref 106), (1, .int x1), (2, .int x2), (3, .int x3)] [.int (@ite Int32 (sgP (rgI I (A 121)) (41 : Int32)) (Classical.propDecidable _) 1 0)]
  refine a_ite (fun (c_7 : sgP (rgI I (A 121)) (41 : Int32)) => ?_) (fun (c_7 : ¬ (sgP (rgI I (A 121)) (41 : Int32))) => ?_)
  · exact a_zret F E (by decide) dX9_readTimes_125 (Nat.le_refl 0) (Nat.le_refl 0) (e_3 c_7)
  · exact a_zret F E (by decide) dX9_readTimes_125 (Nat.le_refl 0) (Nat.le_refl 0) (e_4 c_7)

set_option maxRecDepth 200000 in
theorem c_9_readTimes (l : Launch) {P O : Nat → Nat → Option Nat} (hP : laP P) (I A : Nat → Nat → Int32) (J : Nat → Nat → Int64) {pl : List Nat} (hB : inB pl) (n q sz o : Nat) (mv : MV) (h : AtC I (A 121) n q sz) (hq : tkS (A 121) n q = 4 ∧ tkV (A 121) n q = 40) (ho : o ≤ mv.1) (hv : mvC I A mv) : Con l 8 yX9_readTimes cX9_readTimes 5 (some .boolean) [.ref 106, .int (nI o)] (mC P O I A J) pl 0 0 (tmQ P O I A J pl n sz (tailF (A 121) n o q mv)) := by
  refine Con.of (by decide) (Nat.le_of_ble_eq_true rfl) (fun X hX9 hn9 F E => ?_)
  generalize hT : A 121 = T at h hq
  rw [hT] at E
  have hl := ac_lt h (by rw [hq.1]; decide)
  have h2 := ac_nx h hl
  have f2 : FrT I (rgI I T) := FrT.of (fr_rg I T)
  have hv2 : mvC (rgI I T) A mv := mvC_fr hv (rg_106 _ _) (fun _ _ _ => rfl)
  have e7 : rgI I T 104 7 = I 104 7 := (rg_78 _ _).1
  have e8 : rgI I T 104 8 = I 104 8 := (rg_78 _ _).2
  have er : ∀ {I1 A1 : Nat → Nat → Int32} {c q1 : Nat}, FrT I I1 → (∀ q, q ≠ 107 → q ≠ 108 → q ≠ 109 → A1 q = A q) → I1 104 3 = nI q1 → tailF T n o q mv = .error (c, q1) → tmQ P O I A J pl n sz (tailF T n o q mv) (some (.int 0)) (mC P O (faI I1 (nI c)) A1 J) pl := fun {I1 A1 c q1} hf ha h3 he => by
    rw [he]
    exact ⟨rfl, _, _, rfl, hf.tr (FrT.of (fr_fa _ _)), ha, rfl, rfl, h3⟩
  refine r_9_readTimes_0 F E hP hB (ac_rd h) (fun z => ?_) (fun z => ?_) <;> rw [hT] at z ⊢
  all_goals generalize rgI I T = I2 at h2 f2 hv2 e7 e8 z ⊢
  rotate_left
  · obtain ⟨c, -, e1, e2⟩ := ac_non (lo := 2) (hi := 4) h2 (by omega) z
    rw [show nuI I2 2 4 = faI I2 (nI c) from e1]
    refine er f2 (fun _ _ _ _ => rfl) h2.2.2.2.2.2.2.1 ?_
    unfold tailF; rw [if_neg (fun y => y hq)]
    rcases e2 with ⟨e2, rfl⟩ | ⟨e2, e3, rfl⟩
    · rw [if_pos e2]
    · rw [if_neg (fun y => y e2), if_pos (show tkV T n (nxP T n q) < 2 ∨ 4 < tkV T n (nxP T n q) from e3)]
  obtain ⟨s1, s2, s3, s4, s5, s6, s7⟩ := ac_num (lo := 2) (hi := 4) h2 (by omega) (by omega) z
  rw [nu_in z]
  generalize hN : tkN T n (nxP T n q) = N at s3 s4 s5 s6
  obtain ⟨s, hs⟩ : ∃ s, mv.1 = o + s := ⟨mv.1 - o, by omega⟩
  obtain ⟨M, hM⟩ : ∃ M, N = M + 1 := ⟨N - 1, by omega⟩
  have m8 := hv2.2.1
  have es : mv.1 - o = s := by omega
  have eM : s * N = s * M + s := by rw [hM, Nat.mul_succ]
  have e0 : tailF T n o q mv = (if 8 < o + s * N then .error (7, nxP T n q) else if ¬ (tkS T n (nxP T n (nxP T n q)) = 4 ∧ tkV T n (nxP T n (nxP T n q)) = 41) then .error (1, nxP T n (nxP T n q)) else .ok (nxP T n (nxP T n (nxP T n q)), mvRep mv o s (s * N - s))) := by
    unfold tailF; rw [if_neg (fun y => y hq), if_neg (fun y => y s1), if_neg (show ¬ (tkV T n (nxP T n q) < 2 ∨ 4 < tkV T n (nxP T n q)) from s2), hN, es]
  have hsM : s * M ≤ 8 * 3 := Nat.mul_le_mul (by omega) (by omega)
  have c8 : I2 106 5 + (I2 106 5 - nI o) * (I2 104 6 - 1) ≤ 8 ↔ o + s * N ≤ 8 := by
    rw [hv2.1, s6, hM, show nI (M + 1) - 1 = nI M from pk_sub (a := M + 1) (b := 1) (by omega), pk_sub ho, es, pk_mul, nI_add, show nI (mv.1 + s * M) ≤ 8 ↔ mv.1 + s * M ≤ 8 from nI_len 8 (by omega) (by omega), ← hM]; omega
  refine r_9_readTimes_21 F E hP hB (fun y => ?_) (fun y => er (c := 7) f2 (fun _ _ _ _ => rfl) h2.2.2.2.2.2.2.1 (e0.trans (if_pos (by have := (not_congr c8).mp y; omega))))
  have y8 := c8.mp y
  rw [hv2.1, hs]
  have fin : ∀ I' A' (x3 : Int32), tmI I A I' A' T n (nxP T n q) sz N (mvRep mv o s (s * M)) → WA X (mC P O I' A' J) pl 0 0 109 [(0, .ref 106), (1, .int (nI o)), (2, .int (nI (o + s))), (3, .int x3)] [] := fun I' A' x3 ⟨g1, g2, g3, g4, g5, g6, g7⟩ => by
    have T' : A' 121 = T := (g2 121 (by decide) (by decide) (by decide)).trans hT
    have h3 := ac_nx g3 s7
    have sg3 := ac_sg h3 41
    refine r_9_readTimes_109 F E hP hB (ac_rd g3) (by rw [T']; exact ac_rd h3) (fun w => ?_) (fun w => ?_) <;> rw [T'] at w ⊢
    · have w1 := sg3.mp w
      rw [ps_in w, e0.trans ((if_neg (by omega)).trans (if_neg (fun u => u w1))), show s * N - s = s * M by omega]
      refine ⟨rfl, _, _, rfl, g1.tr ((FrT.of (fr_rg I' T)).tr (FrT.of (fr_rg _ T))), g2, rfl, by rw [hT]; exact ac_nx h3 (ac_lt h3 (by rw [w1.1]; decide)), (rg_78 _ _).1.trans ((rg_78 _ _).1.trans g4), (rg_78 _ _).2.trans ((rg_78 _ _).2.trans g5), mvC_fr g7 ((rg_106 _ _).trans (rg_106 _ _)) (fun _ _ _ => rfl)⟩
    · rw [ps_no w]
      exact er (c := 1) (g1.tr (FrT.of (fr_rg I' T))) g2 h3.2.2.2.2.2.2.1 (e0.trans ((if_neg (by omega)).trans (if_pos (fun u => w (sg3.mpr u)))))
  have lo : ∀ f t I' A', t + f = M → tmI I A I' A' T n (nxP T n q) sz N (mvRep mv o s (s * t)) → WA X (mC P O I' A' J) pl 0 0 58 [(0, .ref 106), (1, .int (nI o)), (2, .int (nI (o + s))), (3, .int (nI (t + 1)))] [] := by
    intro f
    induction f with
    | zero =>
      intro t I' A' ht g
      obtain rfl : t = M := by omega
      refine r_9_readTimes_58 F hP hB (fun _ => fin I' A' _ g) (fun w => absurd ?_ w)
      rw [g.2.2.2.2.2.1, hM]; exact (nI_leI (by omega) (by omega)).mpr (Nat.le_refl _)
    | succ f ih =>
      intro t I' A' ht g
      have hst : s * t + s ≤ s * M := by rw [← Nat.mul_succ]; exact Nat.mul_le_mul_left s (by omega)
      have li : ∀ f2 k I' A', k + f2 = s → tmI I A I' A' T n (nxP T n q) sz N (mvRep mv o s (s * t + k)) → WA X (mC P O I' A' J) pl 0 0 72 [(0, .ref 106), (1, .int (nI o)), (2, .int (nI (o + s))), (3, .int (nI (t + 1))), (4, .int (nI (o + k)))] [] := by
        intro f2
        induction f2 with
        | zero =>
          intro k I' A' hk g
          obtain rfl : k = s := by omega
          have le : nI (o + k) ≤ nI (o + k) := (nI_leI (by omega) (by omega)).mpr (Nat.le_refl _)
          refine r_9_readTimes_72 F hP hB (fun _ => ?_) (fun w => absurd le w) (fun w => absurd le w) (fun w => absurd le w) (fun w => absurd le w)
          rw [nI_1]
          exact ih (t + 1) I' A' (by omega) (by rw [Nat.mul_succ]; exact g)
        | succ f2 ih2 =>
          intro k I' A' hk g
          obtain ⟨g1, g2, g3, g4, g5, g6, g7⟩ := g
          have nle : ¬ nI (o + s) ≤ nI (o + k) := fun w => by have := (nI_leI (by omega) (by omega)).mp w; omega
          have v8 : vp_in (nI (o + k)) 8 := vp_in_nI (by omega) (by omega)
          have hmod : (s * t + k) % s = k := by rw [Nat.mul_add_mod, Nat.mod_eq_of_lt (by omega)]
          have ro := rep_add (mv := mv) (o := o) (s := s) (i := s * t + k) (k := k) (by omega) hmod
          have gk := g7.2.2 (o + k) (by show o + k < o + s + (s * t + k); omega)
          have p1 := rep_per (fr := mv.2.1) (o := o) (s := s) (by omega) (s * t + k) k (by omega)
          have p2 := rep_per (fr := mv.2.2.1) (o := o) (s := s) (by omega) (s * t + k) k (by omega)
          rw [Nat.mod_eq_of_lt (by omega)] at p1 p2
          rw [show (mvRep mv o s (s * t + k)).2.1 (o + k) = mv.2.1 (o + k) from p1, show (mvRep mv o s (s * t + k)).2.2.1 (o + k) = mv.2.2.1 (o + k) from p2] at gk
          have hlt8 : (mvRep mv o s (s * t + k)).1 < 8 := by show o + s + (s * t + k) < 8; omega
          refine r_9_readTimes_72 F hP hB (fun w => absurd w nle) (fun _ => v8) (fun _ => v8) (fun _ => ⟨_, hlt8, g7.1⟩) (fun _ => ?_)
          rw [nI_clamp (by omega), gk.1, gk.2.2.1, nI_1]
          refine ih2 (k + 1) _ _ (by omega) ⟨g1.tr (ad_fr _), fun q a b c => (ad_A a b c).trans (g2 q a b c), ac_ad g3, (up2_p (by decide)).trans g4, (up2_p (by decide)).trans g5, (up2_p (by decide)).trans g6, ?_⟩
          rw [← Nat.add_assoc, ro]
          exact mvC_add g7 hlt8 gk.2.1 gk.2.2.2.1 rfl
      refine r_9_readTimes_58 F hP hB (fun w => ?_) (fun _ => li s 0 I' A' (by omega) g)
      rw [g.2.2.2.2.2.1] at w; have := (nI_leI (by omega) (by omega)).mp w; omega
  refine r_9_readTimes_56 F hP hB (lo M 0 I2 A (by omega) ⟨f2, fun _ _ _ _ => rfl, h2, e7, e8, s6, ?_⟩)
  have : mvRep mv o s (s * 0) = mv := by show (o + s + 0, mv.2.1, mv.2.2.1, mv.2.2.2) = mv; rw [Nat.add_zero, ← hs]
  rw [this]; exact hv2

theorem stp_ok {T : Nat → Int32} {n a q : Nat} {mv : MV} {r : Nat × Nat × MV} (h : stpF T n a mv q = .ok r) : q < r.1 ∧ r.2.2.1 = mv.1 + 1 := by
  unfold stpF at h
  by_cases c1 : ¬ (tkS T n q = 4 ∧ tkV T n q = 47)
  · rw [if_pos c1] at h; cases h
  rw [if_neg c1] at h
  have b1 := nxP_b (T := T) (tk_lt (T := T) (n := n) (p := q) (by rw [(Decidable.of_not_not c1).1]; decide))
  cases hp : ptF T n (nxP T n q) 2 0 with
  | error e => rw [hp] at h; cases h
  | ok v =>
    rw [hp] at h
    have h : (if mv.1 = 8 then Except.error (7, nxP T n q) else if tkS T n (nxP T n (nxP T n q)) = 4 ∧ tkV T n (nxP T n (nxP T n q)) = 42 then .ok (nxP T n (nxP T n (nxP T n q)), v, mvAdd mv a v true) else .ok (nxP T n (nxP T n q), v, mvAdd mv a v false)) = .ok r := h
    have hl : nxP T n q < n := by
      refine tk_lt (T := T) ?_
      unfold ptF at hp
      by_cases d1 : tkS T n (nxP T n q) = 3 ∧ tkV T n (nxP T n q) = 2
      · rw [d1.1]; decide
      rw [if_neg d1] at hp
      by_cases d2 : ¬ tkS T n (nxP T n q) = 2
      · rw [if_pos d2] at hp; cases hp
      · rw [Decidable.of_not_not d2]; decide
    have b2 := nxP_b (T := T) hl
    by_cases c2 : mv.1 = 8
    · rw [if_pos c2] at h; cases h
    rw [if_neg c2] at h
    by_cases c3 : tkS T n (nxP T n (nxP T n q)) = 4 ∧ tkV T n (nxP T n (nxP T n q)) = 42
    · rw [if_pos c3] at h; cases h
      have b3 := nxP_b (T := T) (tk_lt (T := T) (n := n) (p := nxP T n (nxP T n q)) (by rw [c3.1]; decide))
      exact ⟨by show q < nxP T n (nxP T n (nxP T n q)); omega, rfl⟩
    · rw [if_neg c3] at h; cases h
      exact ⟨by show q < nxP T n (nxP T n q); omega, rfl⟩

theorem r_9_readMove_0 {X : Ctx} (F : Fx X cX9_readMove RX9 4 9 0 0) {P O : Nat → Nat → Option Nat} (hP : laP P) {I A : Nat → Nat → Int32} {J : Nat → Nat → Int64} {pl : List Nat} (hB : inB pl)
    (e_1 : WA X (mC P O I A J) pl 0 0 14 [(1, .int (I 106 5)), (0, .ref 106)] [.int 25, .int 114, .int 97, .int 98, .ref 106]) :
    WA X (mC P O I A J) pl 0 0 0 [(0, .ref 106)] [] := by
  refine a_aload_n F 0 dX9_readMove_0 rfl rfl ?_
  refine a_geti F fl_9_91 rfl (hB _ (by decide)) rfl dX9_readMove_1 ?_
  refine a_istore_n F dX9_readMove_4 rfl (by decide) rfl ?_
  refine a_aload_n F 1 dX9_readMove_5 rfl rfl ?_
  refine a_bipush (v := 98) F dX9_readMove_6 (by decide) ?_
  refine a_bipush (v := 97) F dX9_readMove_8 (by decide) ?_
  refine a_bipush (v := 114) F dX9_readMove_10 (by decide) ?_
  refine a_bipush (v := 25) F dX9_readMove_12 (by decide) ?_
  exact e_1

theorem r_9_readMove_25 {X : Ctx} (F : Fx X cX9_readMove RX9 4 9 0 0) {P O : Nat → Nat → Option Nat} (hP : laP P) {I A : Nat → Nat → Int32} {J : Nat → Nat → Int64} {pl : List Nat} (hB : inB pl) {x1 x2 : Int32}
    (o_1 : okRd I)
    (e_2 : WA X (mC P O (rgI I (A 121)) A J) pl 0 0 34 [(0, .ref 106), (1, .int x1), (2, .int x2), (3, .int 0)] []) :
    WA X (mC P O I A J) pl 0 0 25 [(0, .ref 106), (1, .int x1), (2, .int x2)] [] := by
  refine a_aload_n F 0 dX9_readMove_25 rfl rfl ?_
  refine a_getr (b := 104) F fl_9_29 rfl (hB _ (by decide)) rfl ((hP 106 0 (by decide)).trans rfl) dX9_readMove_26 ?_
  refine a_callV (b := 104) (As := []) (st := []) (ci := 5) F (c_5_readI (xl X) hP I A J hB (o_1)) ml_9_60 im_yX5_read se_yX5_read (by decide) (by decide) rfl (hB _ (by decide)) rfl rfl dX9_readMove_29 (by decide) (Nat.le_refl 0) (Nat.le_refl 0) (hl_r (hB _ (by decide)) (hl_i (hl_i hl_nil))) hs_nil ?_
  rintro _ _ _ ⟨rfl, rfl, rfl⟩ _
  show WA X (mC P O (rgI I (A 121)) A J) pl 0 0 32 [(0, .ref 106), (1, .int x1), (2, .int x2)] []
  refine a_iconst (v := 0) F dX9_readMove_32 (by decide) ?_
  refine a_istore_n F dX9_readMove_33 rfl (by decide) rfl ?_
  refine a_sub [1, 2, 3, 0] rfl ?_
  exact e_2

theorem r_9_readMove_34 {X : Ctx} (F : Fx X cX9_readMove RX9 4 9 0 0) {Φ : Option Value → HS → List Nat → Prop} (E : Ex X (some .boolean) 0 0 Φ) {P O : Nat → Nat → Option Nat} (hP : laP P) {I A : Nat → Nat → Int32} {J : Nat → Nat → Int64} {pl : List Nat} (hB : inB pl) {x1 x2 x3 : Int32}
    (e_1 : (8 < x3) → Φ (some (.int 0)) (mC P O I A J) pl)
    (e_2 : (¬ (8 < x3)) → WA X (mC P O I A J) pl 0 0 42 [(0, .ref 106), (1, .int x1), (2, .int x2), (3, .int x3)] [.int x2, .ref 106]) :
    WA X (mC P O I A J) pl 0 0 34 [(0, .ref 106), (1, .int x1), (2, .int x2), (3, .int x3)] [] := by
  refine a_iload_n F 3 dX9_readMove_34 rfl rfl ?_
  refine a_bipush (v := 8) F dX9_readMove_35 (by decide) ?_
  refine a_icmp_gt (tgt := 97) F dX9_readMove_37 (by decide) (fun (c_1 : 8 < x3) => ?_) (fun (c_1 : ¬ (8 < x3)) => ?_)
  · refine a_iconst (v := 0) F dX9_readMove_97 (by decide) ?_
    exact a_zret F E (by decide) dX9_readMove_98 (Nat.le_refl 0) (Nat.le_refl 0) (e_1 c_1)
  · refine a_aload_n F 0 dX9_readMove_40 rfl rfl ?_
    refine a_iload_n F 2 dX9_readMove_41 rfl rfl ?_
    exact e_2 c_1

theorem r_9_readMove_17 {X : Ctx} (F : Fx X cX9_readMove RX9 4 9 0 0) {Φ : Option Value → HS → List Nat → Prop} (E : Ex X (some .boolean) 0 0 Φ) {P O : Nat → Nat → Option Nat} (hP : laP P) {I A : Nat → Nat → Int32} {J : Nat → Nat → Int64} {pl : List Nat} (hB : inB pl) {x1 b1 : Int32}
    (e_1 : (¬ b1 = (-1)) → WA X (mC P O I A J) pl 0 0 25 [(0, .ref 106), (1, .int x1), (2, .int b1)] [])
    (e_2 : (b1 = (-1)) → Φ (some (.int 0)) (mC P O I A J) pl) :
    WA X (mC P O I A J) pl 0 0 17 [(0, .ref 106), (1, .int x1)] [.int b1] := by
  refine a_istore_n F dX9_readMove_17 rfl (by decide) rfl ?_
  refine a_iload_n F 0 dX9_readMove_18 rfl rfl ?_
  refine a_iconst (v := (-1)) F dX9_readMove_19 (by decide) ?_
  refine a_icmp_ne (tgt := 25) F dX9_readMove_20 (by decide) (fun (c_2 : ¬ b1 = (-1)) => ?_) (fun (c_2 : b1 = (-1)) => ?_)
  · refine a_sub [1, 2, 0] rfl ?_
    exact e_1 c_2
  · refine a_iconst (v := 0) F dX9_readMove_23 (by decide) ?_
    exact a_zret F E (by decide) dX9_readMove_24 (Nat.le_refl 0) (Nat.le_refl 0) (e_2 c_2)

theorem r_9_readMove_45 {X : Ctx} (F : Fx X cX9_readMove RX9 4 9 0 0) {Φ : Option Value → HS → List Nat → Prop} (E : Ex X (some .boolean) 0 0 Φ) {P O : Nat → Nat → Option Nat} (hP : laP P) {I A : Nat → Nat → Int32} {J : Nat → Nat → Int64} {pl : List Nat} (hB : inB pl) {x1 x2 x3 b1 : Int32}
    (e_1 : (¬ b1 = (-1)) → (sgP I (47 : Int32)) → WA X (mC P O I A J) pl 0 0 34 [(0, .ref 106), (1, .int x1), (2, .int b1), (3, .int (x3 + 1))] [])
    (e_2 : (¬ b1 = (-1)) → (¬ (sgP I (47 : Int32))) → (sgP I (40 : Int32)) → WA X (mC P O I A J) pl 0 0 79 [(2, .int b1), (0, .ref 106), (1, .int x1), (3, .int x3)] [.int x1, .ref 106])
    (e_3 : (¬ b1 = (-1)) → (¬ (sgP I (47 : Int32))) → (¬ (sgP I (40 : Int32))) → Φ (some (.int 1)) (mC P O I A J) pl)
    (e_4 : (b1 = (-1)) → Φ (some (.int 0)) (mC P O I A J) pl) :
    WA X (mC P O I A J) pl 0 0 45 [(0, .ref 106), (1, .int x1), (2, .int x2), (3, .int x3)] [.int b1] := by
  refine a_istore_n F dX9_readMove_45 rfl (by decide) rfl ?_
  refine a_iload_n F 0 dX9_readMove_46 rfl rfl ?_
  refine a_iconst (v := (-1)) F dX9_readMove_47 (by decide) ?_
  refine a_icmp_ne (tgt := 53) F dX9_readMove_48 (by decide) (fun (c_3 : ¬ b1 = (-1)) => ?_) (fun (c_3 : b1 = (-1)) => ?_)
  · refine a_aload_n F 1 dX9_readMove_53 rfl rfl ?_
    refine a_getr (b := 104) F fl_9_29 rfl (hB _ (by decide)) rfl ((hP 106 0 (by decide)).trans rfl) dX9_readMove_54 ?_
    refine a_bipush (v := 47) F dX9_readMove_57 (by decide) ?_
    refine a_callV (b := 104) (As := [.int 47]) (st := []) (ci := 5) F (c_5_isSign (xl X) hP I A J hB (47 : Int32)) ml_9_54 im_yX5_isSign se_yX5_isSign (by decide) (by decide) rfl (hB _ (by decide)) rfl rfl dX9_readMove_59 (by decide) (Nat.le_refl 0) (Nat.le_refl 0) (hl_i (hl_r (hB _ (by decide)) (hl_i (hl_i hl_nil)))) hs_nil ?_
    rintro _ _ _ ⟨rfl, rfl, rfl⟩ _
    show WA X (mC P O I A J) pl 0 0 62 [(2, .int b1), (0, .ref 106), (1, .int x1), (3, .int x3)] [.int (@ite Int32 (sgP I (47 : Int32)) (Classical.propDecidable _) 1 0)]
    refine a_ite (fun (c_4 : sgP I (47 : Int32)) => ?_) (fun (c_4 : ¬ (sgP I (47 : Int32))) => ?_)
    · refine a_if_ne (tgt := 91) F dX9_readMove_62 (by decide) (fun (c_5 : ¬ (1 : Int32) = 0) => ?_) (fun (c_5 : (1 : Int32) = 0) => ?_)
      · refine a_iinc (v := x3 + 1) F 3 dX9_readMove_91 rfl rfl (by decide) rfl ?_
        refine a_goto (tgt := 34) F dX9_readMove_94 (by decide) ?_
        refine a_sub [2, 3, 1, 0] rfl ?_
        exact e_1 c_3 c_4
      · exact absurd c_5 (by decide)
    · refine a_if_ne (tgt := 91) F dX9_readMove_62 (by decide) (fun (c_6 : ¬ (0 : Int32) = 0) => ?_) (fun (c_6 : (0 : Int32) = 0) => ?_)
      · exact absurd c_6 (by decide)
      · refine a_aload_n F 1 dX9_readMove_65 rfl rfl ?_
        refine a_getr (b := 104) F fl_9_29 rfl (hB _ (by decide)) rfl ((hP 106 0 (by decide)).trans rfl) dX9_readMove_66 ?_
        refine a_bipush (v := 40) F dX9_readMove_69 (by decide) ?_
        refine a_callV (b := 104) (As := [.int 40]) (st := []) (ci := 5) F (c_5_isSign (xl X) hP I A J hB (40 : Int32)) ml_9_54 im_yX5_isSign se_yX5_isSign (by decide) (by decide) rfl (hB _ (by decide)) rfl rfl dX9_readMove_71 (by decide) (Nat.le_refl 0) (Nat.le_refl 0) (hl_i (hl_r (hB _ (by decide)) (hl_i (hl_i hl_nil)))) hs_nil ?_
        rintro _ _ _ ⟨rfl, rfl, rfl⟩ _
        show WA X (mC P O I A J) pl 0 0 74 [(2, .int b1), (0, .ref 106), (1, .int x1), (3, .int x3)] [.int (@ite Int32 (sgP I (40 : Int32)) (Classical.propDecidable _) 1 0)]
        refine a_ite (fun (c_7 : sgP I (40 : Int32)) => ?_) (fun (c_7 : ¬ (sgP I (40 : Int32))) => ?_)
        · refine a_if_eq (tgt := 85) F dX9_readMove_74 (by decide) (fun (c_8 : (1 : Int32) = 0) => ?_) (fun (c_8 : ¬ ((1 : Int32) = 0)) => ?_)
          · exact absurd c_8 (by decide)
          · refine a_aload_n F 1 dX9_readMove_77 rfl rfl ?_
            refine a_iload_n F 2 dX9_readMove_78 rfl rfl ?_
            exact e_2 c_3 c_4 c_7
        · refine a_if_eq (tgt := 85) F dX9_readMove_74 (by decide) (fun (c_9 : (0 : Int32) = 0) => ?_) (fun (c_9 : ¬ ((0 : Int32) = 0)) => ?_)
          · refine a_iconst (v := 1) F dX9_readMove_85 (by decide) ?_
            refine a_goto (tgt := 90) F dX9_readMove_86 (by decide) ?_
            exact a_zret F E (by decide) dX9_readMove_90 (Nat.le_refl 0) (Nat.le_refl 0) (e_3 c_3 c_4 c_7)
          · exact absurd c_9 (by decide)
  · refine a_iconst (v := 0) F dX9_readMove_51 (by decide) ?_
    exact a_zret F E (by decide) dX9_readMove_52 (Nat.le_refl 0) (Nat.le_refl 0) (e_4 c_3)

theorem r_9_readMove_82 {X : Ctx} (F : Fx X cX9_readMove RX9 4 9 0 0) {Φ : Option Value → HS → List Nat → Prop} (E : Ex X (some .boolean) 0 0 Φ) {P O : Nat → Nat → Option Nat} (hP : laP P) {I A : Nat → Nat → Int32} {J : Nat → Nat → Int64} {pl : List Nat} (hB : inB pl) {x1 x2 x3 b1 : Int32}
    (e_1 : (b1 = 0) → Φ (some (.int 0)) (mC P O I A J) pl)
    (e_2 : (¬ (b1 = 0)) → Φ (some (.int 1)) (mC P O I A J) pl) :
    WA X (mC P O I A J) pl 0 0 82 [(0, .ref 106), (1, .int x1), (2, .int x2), (3, .int x3)] [.int b1] := by
  refine a_if_eq (tgt := 89) F dX9_readMove_82 (by decide) (fun (c_10 : b1 = 0) => ?_) (fun (c_10 : ¬ (b1 = 0)) => ?_)
  · refine a_iconst (v := 0) F dX9_readMove_89 (by decide) ?_
    exact a_zret F E (by decide) dX9_readMove_90 (Nat.le_refl 0) (Nat.le_refl 0) (e_1 c_10)
  · refine a_iconst (v := 1) F dX9_readMove_85 (by decide) ?_
    refine a_goto (tgt := 90) F dX9_readMove_86 (by decide) ?_
    exact a_zret F E (by decide) dX9_readMove_90 (Nat.le_refl 0) (Nat.le_refl 0) (e_2 c_10)

set_option maxRecDepth 200000 in
theorem c_9_readMove (l : Launch) {P O : Nat → Nat → Option Nat} (hP : laP P) (I A : Nat → Nat → Int32) (J : Nat → Nat → Int64) {pl : List Nat} (hB : inB pl) (n p sz : Nat) (mv : MV) (h : AtC I (A 121) n p sz) (hv : mvC I A mv) : Con l 9 yX9_readMove cX9_readMove 4 (some .boolean) [.ref 106] (mC P O I A J) pl 0 0 (tmQ P O I A J pl n sz (moveF (A 121) n mv p)) := by
  refine Con.of (by decide) (Nat.le_of_ble_eq_true rfl) (fun X hX9 hn9 F E => ?_)
  generalize hT : A 121 = T at h
  rw [hT, move_1] at E
  refine r_9_readMove_0 F hP hB ?_
  refine a_callV (b := 106) (As := [.int 98, .int 97, .int 114, .int 25]) (st := []) (ci := 9) F (c_9_readPoint (xl X) hP I A J hB 98 97 114 1 n p sz 25 (by rw [hT]; exact h) (by rw [hT]; exact (ac_wd h).1)) ml_9_96 im_yX9_readPoint se_yX9_readPoint (by decide) (by decide) rfl (hB _ (by decide)) rfl rfl dX9_readMove_14 (by decide) (Nat.le_refl 0) (Nat.le_refl 0) (hl_i (hl_r (hB _ (by decide)) hl_nil)) hs_nil ?_
  rintro rv σ' pl' ⟨rfl, hcase⟩ _
  rw [hT] at hcase
  refine a_sub [1, 0] rfl ?_
  cases hp : ptF T n p 1 25 with
  | error e =>
    rw [hp] at hcase E
    obtain ⟨rfl, rfl, h9⟩ := hcase
    refine r_9_readMove_17 F E hP hB (fun z => absurd rfl z) (fun _ => ⟨rfl, _, _, rfl, FrT.of (fr_fa _ _), fun _ _ _ _ => rfl, rfl, rfl, ?_⟩)
    rw [h9]; exact h.2.2.2.2.2.2.1
  | ok v =>
    rw [hp] at hcase E
    obtain ⟨rfl, rfl, hv9, hl⟩ := hcase
    have v25 : v ≤ 25 := by omega
    obtain ⟨R, hR⟩ : ∃ R, movN T n mv.1 (stepsF T n (n + 1) v mv (nxP T n p)) = R := ⟨_, rfl⟩
    simp only [hR] at E
    refine r_9_readMove_17 F E hP hB (fun _ => ?_) (fun z => absurd z (nI_nm (by omega)))
    refine r_9_readMove_25 F hP hB (ac_rd h) ?_
    rw [hT, hv.1]
    have lp : ∀ f k a mv' q I' A', n < q + f → mv.1 + k ≤ mv'.1 → a ≤ 25 → AtC I' T n q sz → mvC I' A' mv' → FrT I I' → (∀ q, q ≠ 107 → q ≠ 108 → q ≠ 109 → A' q = A q) → I' 104 7 = I 104 7 → I' 104 8 = I 104 8 → movN T n mv.1 (stepsF T n f a mv' q) = R → WA X (mC P O I' A' J) pl 0 0 34 [(0, .ref 106), (1, .int (nI mv.1)), (2, .int (nI a)), (3, .int (nI k))] [] := by
      intro f
      induction f with
      | zero => intro k a mv' q I' A' hf _ _ hc; have := hc.1; omega
      | succ f ih =>
        intro k a mv' q I' A' hf hk ha hc hv' hF hA e7 e8 hR
        have m8 := hv'.2.1
        have n8 : ¬ (8 : Int32) < nI k := fun z => by have := (nI_gtn 8 (by omega) (by omega)).mp z; omega
        have T' : A' 121 = T := (hA 121 (by decide) (by decide) (by decide)).trans hT
        rw [steps_1] at hR
        refine r_9_readMove_34 F E hP hB (fun z => absurd z n8) (fun _ => ?_)
        refine a_callV (b := 106) (As := [.int (nI a)]) (st := []) (ci := 9) F (c_9_readStep (xl X) hP I' A' J hB n a q sz mv' ha (by rw [T']; exact hc) hv') ml_9_100 im_yX9_readStep se_yX9_readStep (by decide) (by decide) rfl (hB _ (by decide)) rfl rfl dX9_readMove_42 (by decide) (Nat.le_refl 0) (Nat.le_refl 0) (hl_r (hB _ (by decide)) (hl_i (hl_i (hl_i hl_nil)))) hs_nil ?_
        rintro rv σ' pl' ⟨rfl, I2, A2, rfl, hF2, hA2, hcase⟩ _
        rw [T'] at hcase
        have hF3 := hF.tr hF2
        have hA3 : ∀ q, q ≠ 107 → q ≠ 108 → q ≠ 109 → A2 q = A q := fun q a b c => (hA2 q a b c).trans (hA q a b c)
        have T2 : A2 121 = T := (hA3 121 (by decide) (by decide) (by decide)).trans hT
        cases hst : stpF T n a mv' q with
        | error e =>
          rw [hst] at hR hcase
          obtain ⟨rfl, h7, h8⟩ := hcase
          refine r_9_readMove_45 F E hP hB (fun z => absurd rfl z) (fun z => absurd rfl z) (fun z => absurd rfl z) (fun _ => ?_)
          rw [← show Except.error e = R from hR]
          exact ⟨rfl, _, _, rfl, hF3, hA3, rfl, h7, h8⟩
        | ok r =>
          rw [hst] at hR hcase
          obtain ⟨rfl, hr24, hc2, h7, h8, hv2⟩ := hcase
          obtain ⟨hq, hm⟩ := stp_ok hst
          have sg := ac_sg hc2 47
          have sg4 := ac_sg hc2 40
          have hR : movN T n mv.1 (if tkS T n r.1 = 4 ∧ tkV T n r.1 = 47 then stepsF T n f r.2.1 r.2.2 r.1 else .ok (r.1, r.2.2)) = R := hR
          refine r_9_readMove_45 F E hP hB (fun _ z => ?_) (fun _ z y => ?_) (fun _ z y => ?_) (fun z => absurd z (nI_nm (by omega)))
          · rw [if_pos (sg.mp z)] at hR
            rw [nI_1]
            exact ih (k + 1) r.2.1 r.2.2 r.1 I2 A2 (by omega) (by omega) (by omega) hc2 hv2 hF3 hA3 (h7.trans e7) (h8.trans e8) hR
          · rw [if_neg (fun w => z (sg.mpr w))] at hR
            have hR : tailF T n mv.1 r.1 r.2.2 = R := hR
            refine a_callV (b := 106) (As := [.int (nI mv.1)]) (st := []) (ci := 9) F (c_9_readTimes (xl X) hP I2 A2 J hB n r.1 sz mv.1 r.2.2 (by rw [T2]; exact hc2) (by rw [T2]; exact sg4.mp y) (by omega) hv2) ml_9_104 im_yX9_readTimes se_yX9_readTimes (by decide) (by decide) rfl (hB _ (by decide)) rfl rfl dX9_readMove_79 (by decide) (Nat.le_refl 0) (Nat.le_refl 0) (hl_i (hl_r (hB _ (by decide)) (hl_i (hl_i hl_nil)))) hs_nil ?_
            rintro rv σ' pl' ⟨rfl, I4, A4, rfl, hF4, hA4, hcase⟩ _
            rw [T2, hR] at hcase
            have hF5 := hF3.tr hF4
            have hA5 : ∀ q, q ≠ 107 → q ≠ 108 → q ≠ 109 → A4 q = A q := fun q a b c => (hA4 q a b c).trans (hA3 q a b c)
            refine a_sub [1, 2, 0, 3] rfl ?_
            cases R with
            | error e =>
              obtain ⟨rfl, g7, g8⟩ := hcase
              exact r_9_readMove_82 F E hP hB (fun _ => ⟨rfl, _, _, rfl, hF5, hA5, rfl, g7, g8⟩) (fun z => absurd rfl z)
            | ok w =>
              obtain ⟨rfl, g1, g7, g8, g9⟩ := hcase
              exact r_9_readMove_82 F E hP hB (fun z => absurd z (by decide)) (fun _ => ⟨rfl, _, _, rfl, hF5, hA5, rfl, by rw [hT]; exact g1, g7.trans (h7.trans e7), g8.trans (h8.trans e8), g9⟩)
          · rw [if_neg (fun w => z (sg.mpr w))] at hR
            have hR : tailF T n mv.1 r.1 r.2.2 = R := hR
            unfold tailF at hR
            rw [if_pos (fun w => y (sg4.mpr w))] at hR
            rw [← hR]
            exact ⟨rfl, _, _, rfl, hF3, hA3, rfl, by rw [hT]; exact hc2, h7.trans e7, h8.trans e8, hv2⟩
    exact lp (n + 1) 0 v mv (nxP T n p) (rgI I T) A (by omega) (by omega) v25 (ac_nx h hl) (mvC_fr hv (rg_106 _ _) (fun _ _ _ => rfl)) (FrT.of (fr_rg I T)) (fun _ _ _ _ => rfl) (rg_78 _ _).1 (rg_78 _ _).2 hR

def pmQ (P O : Nat → Nat → Option Nat) (I A : Nat → Nat → Int32) (J : Nat → Nat → Int64) (pl : List Nat) (n : Nat) (res : Except (Nat × Nat) MV) : Option Value → HS → List Nat → Prop := fun rv σ' pl' => pl = pl' ∧ ∃ I' A', σ' = mC P O I' A' J ∧ FrT I I' ∧ (∀ q, q ≠ 107 → q ≠ 108 → q ≠ 109 → A' q = A q) ∧
  match res with
  | .error fp => rv = some (.int 0) ∧ I' 104 7 = nI fp.1 ∧ I' 104 8 = nI fp.2
  | .ok mv => rv = some (.int 1) ∧ I' 104 1 = nI n ∧ I' 104 7 = 0 ∧ I' 104 8 = -1 ∧ mvC I' A' mv

theorem r_9_parseMoves_0 {X : Ctx} (F : Fx X cX9_parseMoves RX9 3 10 0 0) {P O : Nat → Nat → Option Nat} (hP : laP P) {I A : Nat → Nat → Int32} {J : Nat → Nat → Int64} {pl : List Nat} (hB : inB pl) {x1 : Int32}
    (o_1 : okRd (opI I x1))
    (e_2 : WA X (mC P O (up2 (rgI (opI I x1) (A 121)) 106 5 0) A J) pl 0 0 15 [(0, .ref 106), (1, .int x1), (2, .int 0)] []) :
    WA X (mC P O I A J) pl 0 0 0 [(0, .ref 106), (1, .int x1)] [] := by
  refine a_aload_n F 0 dX9_parseMoves_0 rfl rfl ?_
  refine a_getr (b := 104) F fl_9_29 rfl (hB _ (by decide)) rfl ((hP 106 0 (by decide)).trans rfl) dX9_parseMoves_1 ?_
  refine a_iload_n F 1 dX9_parseMoves_4 rfl rfl ?_
  refine a_callV (b := 104) (As := [.int x1]) (st := []) (ci := 5) F (c_5_open (xl X) hP I A J hB x1 (o_1)) ml_9_33 im_yX5_open se_yX5_open (by decide) (by decide) rfl (hB _ (by decide)) rfl rfl dX9_parseMoves_5 (by decide) (Nat.le_refl 0) (Nat.le_refl 0) (hl_r (hB _ (by decide)) (hl_i hl_nil)) hs_nil ?_
  rintro _ _ _ ⟨rfl, rfl, rfl⟩ _
  show WA X (mC P O (rgI (opI I x1) (A 121)) A J) pl 0 0 8 [(0, .ref 106), (1, .int x1)] []
  refine a_aload_n F 0 dX9_parseMoves_8 rfl rfl ?_
  refine a_iconst (v := 0) F dX9_parseMoves_9 (by decide) ?_
  refine a_puti F fl_9_91 rfl rfl rfl rfl (hB _ (by decide)) rfl dX9_parseMoves_10 ?_
  refine a_iconst (v := 0) F dX9_parseMoves_13 (by decide) ?_
  refine a_istore_n F dX9_parseMoves_14 rfl (by decide) rfl ?_
  refine a_sub [1, 2, 0] rfl ?_
  exact e_2

theorem r_9_parseMoves_15 {X : Ctx} (F : Fx X cX9_parseMoves RX9 3 10 0 0) {Φ : Option Value → HS → List Nat → Prop} (E : Ex X (some .boolean) 0 0 Φ) {P O : Nat → Nat → Option Nat} (hP : laP P) {I A : Nat → Nat → Int32} {J : Nat → Nat → Int64} {pl : List Nat} (hB : inB pl) {x1 x2 : Int32}
    (e_1 : (8 < x2) → Φ (some (.int 0)) (mC P O I A J) pl)
    (e_2 : (¬ (8 < x2)) → WA X (mC P O I A J) pl 0 0 22 [(0, .ref 106), (1, .int x1), (2, .int x2)] [.ref 106]) :
    WA X (mC P O I A J) pl 0 0 15 [(0, .ref 106), (1, .int x1), (2, .int x2)] [] := by
  refine a_iload_n F 2 dX9_parseMoves_15 rfl rfl ?_
  refine a_bipush (v := 8) F dX9_parseMoves_16 (by decide) ?_
  refine a_icmp_gt (tgt := 48) F dX9_parseMoves_18 (by decide) (fun (c_1 : 8 < x2) => ?_) (fun (c_1 : ¬ (8 < x2)) => ?_)
  · refine a_iconst (v := 0) F dX9_parseMoves_48 (by decide) ?_
    exact a_zret F E (by decide) dX9_parseMoves_49 (Nat.le_refl 0) (Nat.le_refl 0) (e_1 c_1)
  · refine a_aload_n F 0 dX9_parseMoves_21 rfl rfl ?_
    exact e_2 c_1

theorem r_9_parseMoves_25 {X : Ctx} (F : Fx X cX9_parseMoves RX9 3 10 0 0) {Φ : Option Value → HS → List Nat → Prop} (E : Ex X (some .boolean) 0 0 Φ) {P O : Nat → Nat → Option Nat} (hP : laP P) {I A : Nat → Nat → Int32} {J : Nat → Nat → Int64} {pl : List Nat} (hB : inB pl) {x1 x2 b1 : Int32}
    (e_1 : (¬ b1 = 0) → (¬ (I 104 5) = 0) → WA X (mC P O I A J) pl 0 0 15 [(0, .ref 106), (1, .int x1), (2, .int (x2 + 1))] [])
    (e_2 : (¬ b1 = 0) → ((I 104 5) = 0) → Φ (some (.int 1)) (mC P O I A J) pl)
    (e_3 : (b1 = 0) → Φ (some (.int 0)) (mC P O I A J) pl) :
    WA X (mC P O I A J) pl 0 0 25 [(0, .ref 106), (1, .int x1), (2, .int x2)] [.int b1] := by
  refine a_if_ne (tgt := 30) F dX9_parseMoves_25 (by decide) (fun (c_2 : ¬ b1 = 0) => ?_) (fun (c_2 : b1 = 0) => ?_)
  · refine a_aload_n F 0 dX9_parseMoves_30 rfl rfl ?_
    refine a_getr (b := 104) F fl_9_29 rfl (hB _ (by decide)) rfl ((hP 106 0 (by decide)).trans rfl) dX9_parseMoves_31 ?_
    refine a_geti F fl_9_88 rfl (hB _ (by decide)) rfl dX9_parseMoves_34 ?_
    refine a_if_ne (tgt := 42) F dX9_parseMoves_37 (by decide) (fun (c_3 : ¬ (I 104 5) = 0) => ?_) (fun (c_3 : (I 104 5) = 0) => ?_)
    · refine a_iinc (v := x2 + 1) F 2 dX9_parseMoves_42 rfl rfl (by decide) rfl ?_
      refine a_goto (tgt := 15) F dX9_parseMoves_45 (by decide) ?_
      refine a_sub [1, 2, 0] rfl ?_
      exact e_1 c_2 c_3
    · refine a_iconst (v := 1) F dX9_parseMoves_40 (by decide) ?_
      exact a_zret F E (by decide) dX9_parseMoves_41 (Nat.le_refl 0) (Nat.le_refl 0) (e_2 c_2 c_3)
  · refine a_iconst (v := 0) F dX9_parseMoves_28 (by decide) ?_
    exact a_zret F E (by decide) dX9_parseMoves_29 (Nat.le_refl 0) (Nat.le_refl 0) (e_3 c_2)

set_option maxRecDepth 200000 in
theorem c_9_parseMoves (l : Launch) {P O : Nat → Nat → Option Nat} (hP : laP P) (I A : Nat → Nat → Int32) (J : Nat → Nat → Int64) {pl : List Nat} (hB : inB pl) (n sz : Nat) (h1 : n ≤ sz) (h2 : sz ≤ 400) (h3 : I 120 1 = nI sz) : Con l 10 yX9_parseMoves cX9_parseMoves 3 (some .boolean) [.ref 106, .int (nI n)] (mC P O I A J) pl 0 0 (pmQ P O I A J pl n (movesF (A 121) n 9 mv0 (endT bBl (A 121) n 0))) := by
  refine Con.of (by decide) (Nat.le_of_ble_eq_true rfl) (fun X hX9 hn9 F E => ?_)
  generalize hT : A 121 = T
  rw [hT] at E
  obtain ⟨R, hR⟩ : ∃ R, movesF T n 9 mv0 (endT bBl T n 0) = R := ⟨_, rfl⟩
  rw [hR] at E
  have hc0 : AtC (up2 (rgI (opI I (nI n)) T) 106 5 0) T n (endT bBl T n 0) sz := ac_fr (op_ac h1 h2 h3) (fun q k hk => up2_p (by omega))
  have f0 : FrT I (up2 (rgI (opI I (nI n)) T) 106 5 0) := ((ft_op I _).tr (FrT.of (fr_rg _ _))).tr (ft_106 _ _ _)
  have e70 : (up2 (rgI (opI I (nI n)) T) 106 5 0) 104 7 = 0 := (up2_p (by decide)).trans ((rg_78 _ _).1.trans (op_78 _ _).1)
  have e80 : (up2 (rgI (opI I (nI n)) T) 106 5 0) 104 8 = -1 := (up2_p (by decide)).trans ((rg_78 _ _).2.trans (op_78 _ _).2)
  have hv0 : mvC (up2 (rgI (opI I (nI n)) T) 106 5 0) A mv0 := ⟨up2_s, by decide, fun k hk => absurd hk (Nat.not_lt_zero k)⟩
  refine r_9_parseMoves_0 F hP hB ⟨n, 0, sz, op_rd h1 h2 h3⟩ ?_
  rw [hT]
  have lp : ∀ f k mv q I' A', k + f = 9 → k ≤ mv.1 → AtC I' T n q sz → mvC I' A' mv → FrT I I' → (∀ q, q ≠ 107 → q ≠ 108 → q ≠ 109 → A' q = A q) → I' 104 7 = 0 → I' 104 8 = -1 → movesF T n f mv q = R → WA X (mC P O I' A' J) pl 0 0 15 [(0, .ref 106), (1, .int (nI n)), (2, .int (nI k))] [] := by
    intro f
    induction f with
    | zero => intro k mv q I' A' hk hm _ hv; have := hv.2.1; omega
    | succ f ih =>
      intro k mv q I' A' hk hm hc hv hF hA e7 e8 hR
      have n8 : ¬ (8 : Int32) < nI k := fun z => by have := (nI_gtn 8 (by omega) (by omega)).mp z; omega
      have T' : A' 121 = T := (hA 121 (by decide) (by decide) (by decide)).trans hT
      refine r_9_parseMoves_15 F E hP hB (fun z => absurd z n8) (fun _ => ?_)
      refine a_callV (b := 106) (As := []) (st := []) (ci := 9) F (c_9_readMove (xl X) hP I' A' J hB n q sz mv (by rw [T']; exact hc) hv) ml_9_93 im_yX9_readMove se_yX9_readMove (by decide) (by decide) rfl (hB _ (by decide)) rfl rfl dX9_parseMoves_22 (by decide) (Nat.le_refl 0) (Nat.le_refl 0) (hl_r (hB _ (by decide)) (hl_i (hl_i hl_nil))) hs_nil ?_
      rintro rv σ' pl' ⟨rfl, I2, A2, rfl, hF2, hA2, hcase⟩ _
      rw [T'] at hcase
      have hF3 := hF.tr hF2
      have hA3 : ∀ q, q ≠ 107 → q ≠ 108 → q ≠ 109 → A2 q = A q := fun q a b c => (hA2 q a b c).trans (hA q a b c)
      unfold movesF at hR
      cases hst : moveF T n mv q with
      | error e =>
        rw [hst] at hR hcase
        obtain ⟨rfl, h7, h8⟩ := hcase
        refine r_9_parseMoves_25 F E hP hB (fun z => absurd rfl z) (fun z => absurd rfl z) (fun _ => ?_)
        rw [← show Except.error e = R from hR]
        exact ⟨rfl, _, _, rfl, hF3, hA3, rfl, h7, h8⟩
      | ok r =>
        rw [hst] at hR hcase
        obtain ⟨rfl, hc2, h7, h8, hv2⟩ := hcase
        have hm2 := move_more hst
        have kn := (ac_kn hc2).2.1
        have hR : (if tkS T n r.1 = 0 then .ok r.2 else movesF T n f r.2 r.1) = R := hR
        refine r_9_parseMoves_25 F E hP hB (fun _ z => ?_) (fun _ z => ?_) (fun z => absurd z (by decide))
        · rw [if_neg (fun w => z (kn.mpr w))] at hR
          rw [nI_1]
          exact ih (k + 1) r.2 r.1 I2 A2 (by omega) (by omega) hc2 hv2 hF3 hA3 (h7.trans e7) (h8.trans e8) hR
        · rw [if_pos (kn.mp z)] at hR
          rw [← hR]
          exact ⟨rfl, _, _, rfl, hF3, hA3, rfl, hc2.2.2.2.1, h7.trans e7, h8.trans e8, hv2⟩
  exact lp 9 0 mv0 _ _ A rfl (Nat.zero_le _) hc0 hv0 f0 (fun _ _ _ _ => rfl) e70 e80 hR
