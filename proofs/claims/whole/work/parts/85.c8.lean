def okRd (I : Nat → Nat → Int32) : Prop := ∃ n i sz, rdP I n i sz
def rgI (I : Nat → Nat → Int32) (T : Nat → Int32) : Nat → Nat → Int32 := tkI I T (I 104 1).toNatClampNeg (endT bBl T (I 104 1).toNatClampNeg (I 104 2).toNatClampNeg)
theorem c_5_readI (l : Launch) {P O : Nat → Nat → Option Nat} (hP : laP P) (I A : Nat → Nat → Int32) (J : Nat → Nat → Int64) {pl : List Nat} (hB : inB pl) (h : okRd I) : Con l 5 yX5_read cX5_read 1 none [.ref 104] (mC P O I A J) pl 0 0 (PC none P O (rgI I (A 121)) A J pl) := by
  obtain ⟨n, i, sz, h⟩ := h
  have := c_5_read l hP I A J hB n i sz h (O := O)
  obtain ⟨h1, h2, h3, h4, h5, h6⟩ := h
  unfold rgI
  rw [h4, h5, nI_clamp (by omega), nI_clamp (by omega)]
  exact this
def sgP (I : Nat → Nat → Int32) (c : Int32) : Prop := I 104 5 = 3 ∧ I 104 6 = c
def faI (I : Nat → Nat → Int32) (x : Int32) : Nat → Nat → Int32 := up2 (up2 I 104 7 x) 104 8 (I 104 3)
def nuP (I : Nat → Nat → Int32) (lo hi : Int32) : Prop := I 104 5 = 1 ∧ ¬ 2 < I 104 4 ∧ ¬ I 104 6 < lo ∧ I 104 6 ≤ hi
noncomputable def nuI (I : Nat → Nat → Int32) (lo hi : Int32) : Nat → Nat → Int32 := @ite _ (nuP I lo hi) (Classical.propDecidable _) I (if I 104 5 = 1 then faI I 2 else faI I 1)
noncomputable def psI (I : Nat → Nat → Int32) (T : Nat → Int32) (c : Int32) : Nat → Nat → Int32 := @ite _ (sgP I c) (Classical.propDecidable _) (rgI I T) (faI I 1)
def wdP (I : Nat → Nat → Int32) (T : Nat → Int32) (a b c : Int32) : Prop := I 104 5 = 2 ∧ I 104 4 = 3 ∧ atI T (I 120 1) (I 104 3) = a ∧ atI T (I 120 1) (I 104 3 + 1) = b ∧ atI T (I 120 1) (I 104 3 + 2) = c
def opI (I : Nat → Nat → Int32) (n : Int32) : Nat → Nat → Int32 := up2 (up2 (up2 (up2 I 104 1 n) 104 2 0) 104 7 0) 104 8 (-1)

theorem r_5_isSign_0 {X : Ctx} (F : Fx X cX5_isSign RX5 2 1 0 0) {Φ : Option Value → HS → List Nat → Prop} (E : Ex X (some .boolean) 0 0 Φ) {P O : Nat → Nat → Option Nat} (hP : laP P) {I A : Nat → Nat → Int32} {J : Nat → Nat → Int64} {pl : List Nat} (hB : inB pl) {x1 : Int32}
    (e_1 : (¬ (I 104 5) = 3) → Φ (some (.int 0)) (mC P O I A J) pl)
    (e_2 : ((I 104 5) = 3) → (¬ (I 104 6) = x1) → Φ (some (.int 0)) (mC P O I A J) pl)
    (e_3 : ((I 104 5) = 3) → ((I 104 6) = x1) → Φ (some (.int 1)) (mC P O I A J) pl) :
    WA X (mC P O I A J) pl 0 0 0 [(0, .ref 104), (1, .int x1)] [] := by
  refine a_aload_n F 0 dX5_isSign_0 rfl rfl ?_
  refine a_geti F fl_5_49 rfl (hB _ (by decide)) rfl dX5_isSign_1 ?_
  refine a_iconst (v := 3) F dX5_isSign_4 (by decide) ?_
  refine a_icmp_ne (tgt := 20) F dX5_isSign_5 (by decide) (fun (c_1 : ¬ (I 104 5) = 3) => ?_) (fun (c_1 : (I 104 5) = 3) => ?_)
  · refine a_iconst (v := 0) F dX5_isSign_20 (by decide) ?_
    exact a_zret F E (by decide) dX5_isSign_21 (Nat.le_refl 0) (Nat.le_refl 0) (e_1 c_1)
  · refine a_aload_n F 0 dX5_isSign_8 rfl rfl ?_
    refine a_geti F fl_5_46 rfl (hB _ (by decide)) rfl dX5_isSign_9 ?_
    refine a_iload_n F 1 dX5_isSign_12 rfl rfl ?_
    refine a_icmp_ne (tgt := 20) F dX5_isSign_13 (by decide) (fun (c_2 : ¬ (I 104 6) = x1) => ?_) (fun (c_2 : (I 104 6) = x1) => ?_)
    · refine a_iconst (v := 0) F dX5_isSign_20 (by decide) ?_
      exact a_zret F E (by decide) dX5_isSign_21 (Nat.le_refl 0) (Nat.le_refl 0) (e_2 c_1 c_2)
    · refine a_iconst (v := 1) F dX5_isSign_16 (by decide) ?_
      refine a_goto (tgt := 21) F dX5_isSign_17 (by decide) ?_
      exact a_zret F E (by decide) dX5_isSign_21 (Nat.le_refl 0) (Nat.le_refl 0) (e_3 c_1 c_2)

set_option maxRecDepth 10000 in
theorem c_5_isSign (l : Launch) {P O : Nat → Nat → Option Nat} (hP : laP P) (I A : Nat → Nat → Int32) (J : Nat → Nat → Int64) {pl : List Nat} (hB : inB pl) (c : Int32) : Con l 1 yX5_isSign cX5_isSign 2 (some .boolean) [.ref 104, .int c] (mC P O I A J) pl 0 0 (PC (some (.int (@ite Int32 (sgP I c) (Classical.propDecidable _) 1 0))) P O I A J pl) := by
  refine Con.of (by decide) (Nat.le_of_ble_eq_true rfl) (fun X hX9 hn9 F E => ?_)
  refine r_5_isSign_0 F E hP hB ?_ ?_ ?_ <;> (clear F E hn9 hX9; (try clear X); intros <;> first | (simp_all [PC, sgP]; done) | (simp_all [PC, sgP]; grind))

theorem r_5_fail_0 {X : Ctx} (F : Fx X cX5_fail RX5 2 1 0 0) {Φ : Option Value → HS → List Nat → Prop} (E : Ex X (some .boolean) 0 0 Φ) {P O : Nat → Nat → Option Nat} (hP : laP P) {I A : Nat → Nat → Int32} {J : Nat → Nat → Int64} {pl : List Nat} (hB : inB pl) {x1 : Int32}
    (e_1 : Φ (some (.int 0)) (mC P O (up2 (up2 I 104 7 x1) 104 8 (I 104 3)) A J) pl) :
    WA X (mC P O I A J) pl 0 0 0 [(0, .ref 104), (1, .int x1)] [] := by
  refine a_aload_n F 0 dX5_fail_0 rfl rfl ?_
  refine a_iload_n F 1 dX5_fail_1 rfl rfl ?_
  refine a_puti F fl_5_25 rfl rfl rfl rfl (hB _ (by decide)) rfl dX5_fail_2 ?_
  refine a_aload_n F 0 dX5_fail_5 rfl rfl ?_
  refine a_aload_n F 0 dX5_fail_6 rfl rfl ?_
  refine a_geti F fl_5_40 rfl (hB _ (by decide)) rfl dX5_fail_7 ?_
  refine a_puti F fl_5_9 rfl rfl rfl rfl (hB _ (by decide)) rfl dX5_fail_10 ?_
  refine a_iconst (v := 0) F dX5_fail_13 (by decide) ?_
  exact a_zret F E (by decide) dX5_fail_14 (Nat.le_refl 0) (Nat.le_refl 0) (e_1)

set_option maxRecDepth 10000 in
theorem c_5_fail (l : Launch) {P O : Nat → Nat → Option Nat} (hP : laP P) (I A : Nat → Nat → Int32) (J : Nat → Nat → Int64) {pl : List Nat} (hB : inB pl) (x : Int32) : Con l 1 yX5_fail cX5_fail 2 (some .boolean) [.ref 104, .int x] (mC P O I A J) pl 0 0 (PC (some (.int 0)) P O (faI I x) A J pl) := by
  refine Con.of (by decide) (Nat.le_of_ble_eq_true rfl) (fun X hX9 hn9 F E => ?_)
  refine r_5_fail_0 F E hP hB ?_ <;> (clear F E hn9 hX9; (try clear X); exact ⟨rfl, rfl, rfl⟩)

theorem r_5_failAtEnd_0 {X : Ctx} (F : Fx X cX5_failAtEnd RX5 2 1 0 0) {Φ : Option Value → HS → List Nat → Prop} (E : Ex X none 0 0 Φ) {P O : Nat → Nat → Option Nat} (hP : laP P) {I A : Nat → Nat → Int32} {J : Nat → Nat → Int64} {pl : List Nat} (hB : inB pl) {x1 : Int32}
    (e_1 : Φ none (mC P O (up2 (up2 I 104 7 x1) 104 8 (I 104 1)) A J) pl) :
    WA X (mC P O I A J) pl 0 0 0 [(0, .ref 104), (1, .int x1)] [] := by
  refine a_aload_n F 0 dX5_failAtEnd_0 rfl rfl ?_
  refine a_iload_n F 1 dX5_failAtEnd_1 rfl rfl ?_
  refine a_puti F fl_5_25 rfl rfl rfl rfl (hB _ (by decide)) rfl dX5_failAtEnd_2 ?_
  refine a_aload_n F 0 dX5_failAtEnd_5 rfl rfl ?_
  refine a_aload_n F 0 dX5_failAtEnd_6 rfl rfl ?_
  refine a_geti F fl_5_19 rfl (hB _ (by decide)) rfl dX5_failAtEnd_7 ?_
  refine a_puti F fl_5_9 rfl rfl rfl rfl (hB _ (by decide)) rfl dX5_failAtEnd_10 ?_
  exact a_vret F E dX5_failAtEnd_13 (Nat.le_refl 0) (Nat.le_refl 0) (e_1)

set_option maxRecDepth 10000 in
theorem c_5_failAtEnd (l : Launch) {P O : Nat → Nat → Option Nat} (hP : laP P) (I A : Nat → Nat → Int32) (J : Nat → Nat → Int64) {pl : List Nat} (hB : inB pl) (x : Int32) : Con l 1 yX5_failAtEnd cX5_failAtEnd 2 none [.ref 104, .int x] (mC P O I A J) pl 0 0 (PC none P O (up2 (up2 I 104 7 x) 104 8 (I 104 1)) A J pl) := by
  refine Con.of (by decide) (Nat.le_of_ble_eq_true rfl) (fun X hX9 hn9 F E => ?_)
  refine r_5_failAtEnd_0 F E hP hB ?_ <;> (clear F E hn9 hX9; (try clear X); exact ⟨rfl, rfl, rfl⟩)

theorem r_5_isNumber_0 {X : Ctx} (F : Fx X cX5_isNumber RX5 3 2 0 0) {Φ : Option Value → HS → List Nat → Prop} (E : Ex X (some .boolean) 0 0 Φ) {P O : Nat → Nat → Option Nat} (hP : laP P) {I A : Nat → Nat → Int32} {J : Nat → Nat → Int64} {pl : List Nat} (hB : inB pl) {x1 x2 : Int32}
    (e_1 : ((I 104 5) = 1) → (2 < (I 104 4)) → Φ (some (.int 0)) (mC P O (faI I (2 : Int32)) A J) pl)
    (e_2 : ((I 104 5) = 1) → (¬ (2 < (I 104 4))) → ((I 104 6) < x1) → Φ (some (.int 0)) (mC P O (faI I (2 : Int32)) A J) pl)
    (e_3 : ((I 104 5) = 1) → (¬ (2 < (I 104 4))) → (¬ ((I 104 6) < x1)) → ((I 104 6) ≤ x2) → Φ (some (.int 1)) (mC P O I A J) pl)
    (e_4 : ((I 104 5) = 1) → (¬ (2 < (I 104 4))) → (¬ ((I 104 6) < x1)) → (¬ ((I 104 6) ≤ x2)) → Φ (some (.int 0)) (mC P O (faI I (2 : Int32)) A J) pl)
    (e_5 : (¬ ((I 104 5) = 1)) → Φ (some (.int 0)) (mC P O (faI I (1 : Int32)) A J) pl) :
    WA X (mC P O I A J) pl 0 0 0 [(0, .ref 104), (1, .int x1), (2, .int x2)] [] := by
  refine a_aload_n F 0 dX5_isNumber_0 rfl rfl ?_
  refine a_geti F fl_5_49 rfl (hB _ (by decide)) rfl dX5_isNumber_1 ?_
  refine a_iconst (v := 1) F dX5_isNumber_4 (by decide) ?_
  refine a_icmp_eq (tgt := 14) F dX5_isNumber_5 (by decide) (fun (c_1 : (I 104 5) = 1) => ?_) (fun (c_1 : ¬ ((I 104 5) = 1)) => ?_)
  · refine a_aload_n F 0 dX5_isNumber_14 rfl rfl ?_
    refine a_geti F fl_5_43 rfl (hB _ (by decide)) rfl dX5_isNumber_15 ?_
    refine a_iconst (v := 2) F dX5_isNumber_18 (by decide) ?_
    refine a_icmp_gt (tgt := 38) F dX5_isNumber_19 (by decide) (fun (c_2 : 2 < (I 104 4)) => ?_) (fun (c_2 : ¬ (2 < (I 104 4))) => ?_)
    · refine a_aload_n F 0 dX5_isNumber_38 rfl rfl ?_
      refine a_iconst (v := 2) F dX5_isNumber_39 (by decide) ?_
      refine a_callV (b := 104) (As := [.int 2]) (st := []) (ci := 5) F (c_5_fail (xl X) hP I A J hB (2 : Int32)) ml_5_67 im_yX5_fail se_yX5_fail (by decide) (by decide) rfl (hB _ (by decide)) rfl rfl dX5_isNumber_40 (by decide) (Nat.le_refl 0) (Nat.le_refl 0) (hl_r (hB _ (by decide)) (hl_i (hl_i hl_nil))) hs_nil ?_
      rintro _ _ _ ⟨rfl, rfl, rfl⟩ _
      show WA X (mC P O (faI I (2 : Int32)) A J) pl 0 0 43 [(0, .ref 104), (1, .int x1), (2, .int x2)] [.int 0]
      exact a_zret F E (by decide) dX5_isNumber_43 (Nat.le_refl 0) (Nat.le_refl 0) (e_1 c_1 c_2)
    · refine a_aload_n F 0 dX5_isNumber_22 rfl rfl ?_
      refine a_geti F fl_5_46 rfl (hB _ (by decide)) rfl dX5_isNumber_23 ?_
      refine a_iload_n F 1 dX5_isNumber_26 rfl rfl ?_
      refine a_icmp_lt (tgt := 38) F dX5_isNumber_27 (by decide) (fun (c_3 : (I 104 6) < x1) => ?_) (fun (c_3 : ¬ ((I 104 6) < x1)) => ?_)
      · refine a_aload_n F 0 dX5_isNumber_38 rfl rfl ?_
        refine a_iconst (v := 2) F dX5_isNumber_39 (by decide) ?_
        refine a_callV (b := 104) (As := [.int 2]) (st := []) (ci := 5) F (c_5_fail (xl X) hP I A J hB (2 : Int32)) ml_5_67 im_yX5_fail se_yX5_fail (by decide) (by decide) rfl (hB _ (by decide)) rfl rfl dX5_isNumber_40 (by decide) (Nat.le_refl 0) (Nat.le_refl 0) (hl_r (hB _ (by decide)) (hl_i (hl_i hl_nil))) hs_nil ?_
        rintro _ _ _ ⟨rfl, rfl, rfl⟩ _
        show WA X (mC P O (faI I (2 : Int32)) A J) pl 0 0 43 [(0, .ref 104), (1, .int x1), (2, .int x2)] [.int 0]
        exact a_zret F E (by decide) dX5_isNumber_43 (Nat.le_refl 0) (Nat.le_refl 0) (e_2 c_1 c_2 c_3)
      · refine a_aload_n F 0 dX5_isNumber_30 rfl rfl ?_
        refine a_geti F fl_5_46 rfl (hB _ (by decide)) rfl dX5_isNumber_31 ?_
        refine a_iload_n F 2 dX5_isNumber_34 rfl rfl ?_
        refine a_icmp_le (tgt := 44) F dX5_isNumber_35 (by decide) (fun (c_4 : (I 104 6) ≤ x2) => ?_) (fun (c_4 : ¬ ((I 104 6) ≤ x2)) => ?_)
        · refine a_iconst (v := 1) F dX5_isNumber_44 (by decide) ?_
          exact a_zret F E (by decide) dX5_isNumber_45 (Nat.le_refl 0) (Nat.le_refl 0) (e_3 c_1 c_2 c_3 c_4)
        · refine a_aload_n F 0 dX5_isNumber_38 rfl rfl ?_
          refine a_iconst (v := 2) F dX5_isNumber_39 (by decide) ?_
          refine a_callV (b := 104) (As := [.int 2]) (st := []) (ci := 5) F (c_5_fail (xl X) hP I A J hB (2 : Int32)) ml_5_67 im_yX5_fail se_yX5_fail (by decide) (by decide) rfl (hB _ (by decide)) rfl rfl dX5_isNumber_40 (by decide) (Nat.le_refl 0) (Nat.le_refl 0) (hl_r (hB _ (by decide)) (hl_i (hl_i hl_nil))) hs_nil ?_
          rintro _ _ _ ⟨rfl, rfl, rfl⟩ _
          show WA X (mC P O (faI I (2 : Int32)) A J) pl 0 0 43 [(0, .ref 104), (1, .int x1), (2, .int x2)] [.int 0]
          exact a_zret F E (by decide) dX5_isNumber_43 (Nat.le_refl 0) (Nat.le_refl 0) (e_4 c_1 c_2 c_3 c_4)
  · refine a_aload_n F 0 dX5_isNumber_8 rfl rfl ?_
    refine a_iconst (v := 1) F dX5_isNumber_9 (by decide) ?_
    refine a_callV (b := 104) (As := [.int 1]) (st := []) (ci := 5) F (c_5_fail (xl X) hP I A J hB (1 : Int32)) ml_5_67 im_yX5_fail se_yX5_fail (by decide) (by decide) rfl (hB _ (by decide)) rfl rfl dX5_isNumber_10 (by decide) (Nat.le_refl 0) (Nat.le_refl 0) (hl_r (hB _ (by decide)) (hl_i (hl_i hl_nil))) hs_nil ?_
    rintro _ _ _ ⟨rfl, rfl, rfl⟩ _
    show WA X (mC P O (faI I (1 : Int32)) A J) pl 0 0 13 [(0, .ref 104), (1, .int x1), (2, .int x2)] [.int 0]
    exact a_zret F E (by decide) dX5_isNumber_13 (Nat.le_refl 0) (Nat.le_refl 0) (e_5 c_1)

set_option maxRecDepth 10000 in
theorem c_5_isNumber (l : Launch) {P O : Nat → Nat → Option Nat} (hP : laP P) (I A : Nat → Nat → Int32) (J : Nat → Nat → Int64) {pl : List Nat} (hB : inB pl) (lo hi : Int32) : Con l 2 yX5_isNumber cX5_isNumber 3 (some .boolean) [.ref 104, .int lo, .int hi] (mC P O I A J) pl 0 0 (fun rv σ' pl' => rv = some (.int (@ite Int32 (nuP I lo hi) (Classical.propDecidable _) 1 0)) ∧ σ' = mC P O (nuI I lo hi) A J ∧ pl = pl') := by
  refine Con.of (by decide) (Nat.le_of_ble_eq_true rfl) (fun X hX9 hn9 F E => ?_)
  refine r_5_isNumber_0 F E hP hB ?_ ?_ ?_ ?_ ?_ <;> (clear F E hn9 hX9; (try clear X); intros; unfold nuI; first | (rw [if_pos ⟨by assumption, by assumption, by assumption, by assumption⟩, if_pos ⟨by assumption, by assumption, by assumption, by assumption⟩]; exact ⟨rfl, rfl, rfl⟩) | (rw [if_neg (fun z => by have h1 := z.1; have h2 := z.2.1; have h3 := z.2.2.1; have h4 := z.2.2.2; contradiction), if_neg (fun z => by have h1 := z.1; have h2 := z.2.1; have h3 := z.2.2.1; have h4 := z.2.2.2; contradiction)]; first | (rw [if_pos (by assumption)]; exact ⟨rfl, rfl, rfl⟩) | (rw [if_neg (by assumption)]; exact ⟨rfl, rfl, rfl⟩)))

theorem r_5_passSign_0 {X : Ctx} (F : Fx X cX5_passSign RX5 2 6 0 0) {Φ : Option Value → HS → List Nat → Prop} (E : Ex X (some .boolean) 0 0 Φ) {P O : Nat → Nat → Option Nat} (hP : laP P) {I A : Nat → Nat → Int32} {J : Nat → Nat → Int64} {pl : List Nat} (hB : inB pl) {x1 : Int32}
    (o_1 : (sgP I x1) → okRd I)
    (e_2 : (sgP I x1) → Φ (some (.int 1)) (mC P O (rgI I (A 121)) A J) pl)
    (e_3 : (¬ (sgP I x1)) → Φ (some (.int 0)) (mC P O (faI I (1 : Int32)) A J) pl) :
    WA X (mC P O I A J) pl 0 0 0 [(0, .ref 104), (1, .int x1)] [] := by
  refine a_aload_n F 0 dX5_passSign_0 rfl rfl ?_
  refine a_iload_n F 1 dX5_passSign_1 rfl rfl ?_
  refine a_callV (b := 104) (As := [.int x1]) (st := []) (ci := 5) F (c_5_isSign (xl X) hP I A J hB x1) ml_5_70 im_yX5_isSign se_yX5_isSign (by decide) (by decide) rfl (hB _ (by decide)) rfl rfl dX5_passSign_2 (by decide) (Nat.le_refl 0) (Nat.le_refl 0) (hl_r (hB _ (by decide)) (hl_i hl_nil)) hs_nil ?_
  rintro _ _ _ ⟨rfl, rfl, rfl⟩ _
  show WA X (mC P O I A J) pl 0 0 5 [(0, .ref 104), (1, .int x1)] [.int (@ite Int32 (sgP I x1) (Classical.propDecidable _) 1 0)]
  refine a_ite (fun (c_1 : sgP I x1) => ?_) (fun (c_1 : ¬ (sgP I x1)) => ?_)
  · refine a_if_ne (tgt := 14) F dX5_passSign_5 (by decide) (fun (c_2 : ¬ (1 : Int32) = 0) => ?_) (fun (c_2 : (1 : Int32) = 0) => ?_)
    · refine a_aload_n F 0 dX5_passSign_14 rfl rfl ?_
      refine a_callV (b := 104) (As := []) (st := []) (ci := 5) F (c_5_readI (xl X) hP I A J hB (o_1 c_1)) ml_5_28 im_yX5_read se_yX5_read (by decide) (by decide) rfl (hB _ (by decide)) rfl rfl dX5_passSign_15 (by decide) (Nat.le_refl 0) (Nat.le_refl 0) (hl_r (hB _ (by decide)) (hl_i hl_nil)) hs_nil ?_
      rintro _ _ _ ⟨rfl, rfl, rfl⟩ _
      show WA X (mC P O (rgI I (A 121)) A J) pl 0 0 18 [(0, .ref 104), (1, .int x1)] []
      refine a_iconst (v := 1) F dX5_passSign_18 (by decide) ?_
      exact a_zret F E (by decide) dX5_passSign_19 (Nat.le_refl 0) (Nat.le_refl 0) (e_2 c_1)
    · exact absurd c_2 (by decide)
  · refine a_if_ne (tgt := 14) F dX5_passSign_5 (by decide) (fun (c_3 : ¬ (0 : Int32) = 0) => ?_) (fun (c_3 : (0 : Int32) = 0) => ?_)
    · exact absurd c_3 (by decide)
    · refine a_aload_n F 0 dX5_passSign_8 rfl rfl ?_
      refine a_iconst (v := 1) F dX5_passSign_9 (by decide) ?_
      refine a_callV (b := 104) (As := [.int 1]) (st := []) (ci := 5) F (c_5_fail (xl X) hP I A J hB (1 : Int32)) ml_5_67 im_yX5_fail se_yX5_fail (by decide) (by decide) rfl (hB _ (by decide)) rfl rfl dX5_passSign_10 (by decide) (Nat.le_refl 0) (Nat.le_refl 0) (hl_r (hB _ (by decide)) (hl_i hl_nil)) hs_nil ?_
      rintro _ _ _ ⟨rfl, rfl, rfl⟩ _
      show WA X (mC P O (faI I (1 : Int32)) A J) pl 0 0 13 [(0, .ref 104), (1, .int x1)] [.int 0]
      exact a_zret F E (by decide) dX5_passSign_13 (Nat.le_refl 0) (Nat.le_refl 0) (e_3 c_1)

set_option maxRecDepth 10000 in
theorem c_5_passSign (l : Launch) {P O : Nat → Nat → Option Nat} (hP : laP P) (I A : Nat → Nat → Int32) (J : Nat → Nat → Int64) {pl : List Nat} (hB : inB pl) (c : Int32) (h : okRd I) : Con l 6 yX5_passSign cX5_passSign 2 (some .boolean) [.ref 104, .int c] (mC P O I A J) pl 0 0 (fun rv σ' pl' => rv = some (.int (@ite Int32 (sgP I c) (Classical.propDecidable _) 1 0)) ∧ σ' = mC P O (psI I (A 121) c) A J ∧ pl = pl') := by
  refine Con.of (by decide) (Nat.le_of_ble_eq_true rfl) (fun X hX9 hn9 F E => ?_)
  refine r_5_passSign_0 F E hP hB ?_ ?_ ?_ <;> (clear F E hn9 hX9; (try clear X); first | (intros; exact h) | (intro z; unfold psI; first | (rw [if_pos z, if_pos z]; exact ⟨rfl, rfl, rfl⟩) | (rw [if_neg z, if_neg z]; exact ⟨rfl, rfl, rfl⟩)))

theorem r_5_isWord_0 {X : Ctx} (F : Fx X cX5_isWord RX5 4 3 0 0) {Φ : Option Value → HS → List Nat → Prop} (E : Ex X (some .boolean) 0 0 Φ) {P O : Nat → Nat → Option Nat} (hP : laP P) {I A : Nat → Nat → Int32} {J : Nat → Nat → Int64} {pl : List Nat} (hB : inB pl) {x1 x2 x3 : Int32}
    (e_1 : (¬ (I 104 5) = 2) → Φ (some (.int 0)) (mC P O I A J) pl)
    (e_2 : ((I 104 5) = 2) → (¬ (I 104 4) = 3) → Φ (some (.int 0)) (mC P O I A J) pl)
    (o_3 : ((I 104 5) = 2) → ((I 104 4) = 3) → szO (I 120 1))
    (e_4 : ((I 104 5) = 2) → ((I 104 4) = 3) → (¬ (atI (A 121) (I 120 1) (I 104 3)) = x1) → Φ (some (.int 0)) (mC P O I A J) pl)
    (o_5 : ((I 104 5) = 2) → ((I 104 4) = 3) → ((atI (A 121) (I 120 1) (I 104 3)) = x1) → szO (I 120 1))
    (e_6 : ((I 104 5) = 2) → ((I 104 4) = 3) → ((atI (A 121) (I 120 1) (I 104 3)) = x1) → (¬ (atI (A 121) (I 120 1) ((I 104 3) + 1)) = x2) → Φ (some (.int 0)) (mC P O I A J) pl)
    (o_7 : ((I 104 5) = 2) → ((I 104 4) = 3) → ((atI (A 121) (I 120 1) (I 104 3)) = x1) → ((atI (A 121) (I 120 1) ((I 104 3) + 1)) = x2) → szO (I 120 1))
    (e_8 : ((I 104 5) = 2) → ((I 104 4) = 3) → ((atI (A 121) (I 120 1) (I 104 3)) = x1) → ((atI (A 121) (I 120 1) ((I 104 3) + 1)) = x2) → (¬ (atI (A 121) (I 120 1) ((I 104 3) + 2)) = x3) → Φ (some (.int 0)) (mC P O I A J) pl)
    (e_9 : ((I 104 5) = 2) → ((I 104 4) = 3) → ((atI (A 121) (I 120 1) (I 104 3)) = x1) → ((atI (A 121) (I 120 1) ((I 104 3) + 1)) = x2) → ((atI (A 121) (I 120 1) ((I 104 3) + 2)) = x3) → Φ (some (.int 1)) (mC P O I A J) pl) :
    WA X (mC P O I A J) pl 0 0 0 [(0, .ref 104), (1, .int x1), (2, .int x2), (3, .int x3)] [] := by
  refine a_aload_n F 0 dX5_isWord_0 rfl rfl ?_
  refine a_geti F fl_5_49 rfl (hB _ (by decide)) rfl dX5_isWord_1 ?_
  refine a_iconst (v := 2) F dX5_isWord_4 (by decide) ?_
  refine a_icmp_ne (tgt := 69) F dX5_isWord_5 (by decide) (fun (c_1 : ¬ (I 104 5) = 2) => ?_) (fun (c_1 : (I 104 5) = 2) => ?_)
  · refine a_iconst (v := 0) F dX5_isWord_69 (by decide) ?_
    exact a_zret F E (by decide) dX5_isWord_70 (Nat.le_refl 0) (Nat.le_refl 0) (e_1 c_1)
  · refine a_aload_n F 0 dX5_isWord_8 rfl rfl ?_
    refine a_geti F fl_5_43 rfl (hB _ (by decide)) rfl dX5_isWord_9 ?_
    refine a_iconst (v := 3) F dX5_isWord_12 (by decide) ?_
    refine a_icmp_ne (tgt := 69) F dX5_isWord_13 (by decide) (fun (c_2 : ¬ (I 104 4) = 3) => ?_) (fun (c_2 : (I 104 4) = 3) => ?_)
    · refine a_iconst (v := 0) F dX5_isWord_69 (by decide) ?_
      exact a_zret F E (by decide) dX5_isWord_70 (Nat.le_refl 0) (Nat.le_refl 0) (e_2 c_1 c_2)
    · refine a_aload_n F 0 dX5_isWord_16 rfl rfl ?_
      refine a_getr (b := 120) F fl_5_15 rfl (hB _ (by decide)) rfl ((hP 104 0 (by decide)).trans rfl) dX5_isWord_17 ?_
      refine a_aload_n F 0 dX5_isWord_20 rfl rfl ?_
      refine a_geti F fl_5_40 rfl (hB _ (by decide)) rfl dX5_isWord_21 ?_
      refine a_callV (b := 120) (As := [.int (I 104 3)]) (st := []) (ci := 1) F (c_1_atI (xl X) hP I A J hB 120 rfl (hB _ (by decide)) (hB _ (by decide)) (I 104 3) (o_3 c_1 c_2)) ml_5_31 im_yX1_at se_yX1_at (by decide) (by decide) rfl (hB _ (by decide)) rfl rfl dX5_isWord_24 (by decide) (Nat.le_refl 0) (Nat.le_refl 0) (hl_r (hB _ (by decide)) (hl_i (hl_i (hl_i hl_nil)))) hs_nil ?_
      rintro _ _ _ ⟨rfl, rfl, rfl⟩ _
      show WA X (mC P O I A J) pl 0 0 27 [(0, .ref 104), (1, .int x1), (2, .int x2), (3, .int x3)] [.int (atI (A 121) (I 120 1) (I 104 3))]
      refine a_iload_n F 1 dX5_isWord_27 rfl rfl ?_
      refine a_icmp_ne (tgt := 69) F dX5_isWord_28 (by decide) (fun (c_3 : ¬ (atI (A 121) (I 120 1) (I 104 3)) = x1) => ?_) (fun (c_3 : (atI (A 121) (I 120 1) (I 104 3)) = x1) => ?_)
      · refine a_iconst (v := 0) F dX5_isWord_69 (by decide) ?_
        exact a_zret F E (by decide) dX5_isWord_70 (Nat.le_refl 0) (Nat.le_refl 0) (e_4 c_1 c_2 c_3)
      · refine a_aload_n F 0 dX5_isWord_31 rfl rfl ?_
        refine a_getr (b := 120) F fl_5_15 rfl (hB _ (by decide)) rfl ((hP 104 0 (by decide)).trans rfl) dX5_isWord_32 ?_
        refine a_aload_n F 0 dX5_isWord_35 rfl rfl ?_
        refine a_geti F fl_5_40 rfl (hB _ (by decide)) rfl dX5_isWord_36 ?_
        refine a_iconst (v := 1) F dX5_isWord_39 (by decide) ?_
        refine a_iadd F dX5_isWord_40 ?_
        refine a_callV (b := 120) (As := [.int ((I 104 3) + 1)]) (st := []) (ci := 1) F (c_1_atI (xl X) hP I A J hB 120 rfl (hB _ (by decide)) (hB _ (by decide)) ((I 104 3) + 1) (o_5 c_1 c_2 c_3)) ml_5_31 im_yX1_at se_yX1_at (by decide) (by decide) rfl (hB _ (by decide)) rfl rfl dX5_isWord_41 (by decide) (Nat.le_refl 0) (Nat.le_refl 0) (hl_r (hB _ (by decide)) (hl_i (hl_i (hl_i hl_nil)))) hs_nil ?_
        rintro _ _ _ ⟨rfl, rfl, rfl⟩ _
        show WA X (mC P O I A J) pl 0 0 44 [(0, .ref 104), (1, .int x1), (2, .int x2), (3, .int x3)] [.int (atI (A 121) (I 120 1) ((I 104 3) + 1))]
        refine a_iload_n F 2 dX5_isWord_44 rfl rfl ?_
        refine a_icmp_ne (tgt := 69) F dX5_isWord_45 (by decide) (fun (c_4 : ¬ (atI (A 121) (I 120 1) ((I 104 3) + 1)) = x2) => ?_) (fun (c_4 : (atI (A 121) (I 120 1) ((I 104 3) + 1)) = x2) => ?_)
        · refine a_iconst (v := 0) F dX5_isWord_69 (by decide) ?_
          exact a_zret F E (by decide) dX5_isWord_70 (Nat.le_refl 0) (Nat.le_refl 0) (e_6 c_1 c_2 c_3 c_4)
        · refine a_aload_n F 0 dX5_isWord_48 rfl rfl ?_
          refine a_getr (b := 120) F fl_5_15 rfl (hB _ (by decide)) rfl ((hP 104 0 (by decide)).trans rfl) dX5_isWord_49 ?_
          refine a_aload_n F 0 dX5_isWord_52 rfl rfl ?_
          refine a_geti F fl_5_40 rfl (hB _ (by decide)) rfl dX5_isWord_53 ?_
          refine a_iconst (v := 2) F dX5_isWord_56 (by decide) ?_
          refine a_iadd F dX5_isWord_57 ?_
          refine a_callV (b := 120) (As := [.int ((I 104 3) + 2)]) (st := []) (ci := 1) F (c_1_atI (xl X) hP I A J hB 120 rfl (hB _ (by decide)) (hB _ (by decide)) ((I 104 3) + 2) (o_7 c_1 c_2 c_3 c_4)) ml_5_31 im_yX1_at se_yX1_at (by decide) (by decide) rfl (hB _ (by decide)) rfl rfl dX5_isWord_58 (by decide) (Nat.le_refl 0) (Nat.le_refl 0) (hl_r (hB _ (by decide)) (hl_i (hl_i (hl_i hl_nil)))) hs_nil ?_
          rintro _ _ _ ⟨rfl, rfl, rfl⟩ _
          show WA X (mC P O I A J) pl 0 0 61 [(0, .ref 104), (1, .int x1), (2, .int x2), (3, .int x3)] [.int (atI (A 121) (I 120 1) ((I 104 3) + 2))]
          refine a_iload_n F 3 dX5_isWord_61 rfl rfl ?_
          refine a_icmp_ne (tgt := 69) F dX5_isWord_62 (by decide) (fun (c_5 : ¬ (atI (A 121) (I 120 1) ((I 104 3) + 2)) = x3) => ?_) (fun (c_5 : (atI (A 121) (I 120 1) ((I 104 3) + 2)) = x3) => ?_)
          · refine a_iconst (v := 0) F dX5_isWord_69 (by decide) ?_
            exact a_zret F E (by decide) dX5_isWord_70 (Nat.le_refl 0) (Nat.le_refl 0) (e_8 c_1 c_2 c_3 c_4 c_5)
          · refine a_iconst (v := 1) F dX5_isWord_65 (by decide) ?_
            refine a_goto (tgt := 70) F dX5_isWord_66 (by decide) ?_
            exact a_zret F E (by decide) dX5_isWord_70 (Nat.le_refl 0) (Nat.le_refl 0) (e_9 c_1 c_2 c_3 c_4 c_5)

set_option maxRecDepth 10000 in
theorem c_5_isWord (l : Launch) {P O : Nat → Nat → Option Nat} (hP : laP P) (I A : Nat → Nat → Int32) (J : Nat → Nat → Int64) {pl : List Nat} (hB : inB pl) (a b c : Int32) (h : szO (I 120 1)) : Con l 3 yX5_isWord cX5_isWord 4 (some .boolean) [.ref 104, .int a, .int b, .int c] (mC P O I A J) pl 0 0 (PC (some (.int (@ite Int32 (wdP I (A 121) a b c) (Classical.propDecidable _) 1 0))) P O I A J pl) := by
  refine Con.of (by decide) (Nat.le_of_ble_eq_true rfl) (fun X hX9 hn9 F E => ?_)
  refine r_5_isWord_0 F E hP hB ?_ ?_ ?_ ?_ ?_ ?_ ?_ ?_ ?_ <;> (clear F E hn9 hX9; (try clear X); intros; first | exact h | (rw [if_pos ⟨by assumption, by assumption, by assumption, by assumption, by assumption⟩]; exact ⟨rfl, rfl, rfl⟩) | (rw [if_neg (fun z => by have h1 := z.1; have h2 := z.2.1; have h3 := z.2.2.1; have h4 := z.2.2.2.1; have h5 := z.2.2.2.2; contradiction)]; exact ⟨rfl, rfl, rfl⟩))

theorem r_5_open_0 {X : Ctx} (F : Fx X cX5_open RX5 2 6 0 0) {Φ : Option Value → HS → List Nat → Prop} (E : Ex X none 0 0 Φ) {P O : Nat → Nat → Option Nat} (hP : laP P) {I A : Nat → Nat → Int32} {J : Nat → Nat → Int64} {pl : List Nat} (hB : inB pl) {x1 : Int32}
    (o_1 : okRd (up2 (up2 (up2 (up2 I 104 1 x1) 104 2 0) 104 7 0) 104 8 (-1)))
    (e_2 : Φ none (mC P O (rgI (up2 (up2 (up2 (up2 I 104 1 x1) 104 2 0) 104 7 0) 104 8 (-1)) (A 121)) A J) pl) :
    WA X (mC P O I A J) pl 0 0 0 [(0, .ref 104), (1, .int x1)] [] := by
  refine a_aload_n F 0 dX5_open_0 rfl rfl ?_
  refine a_iload_n F 1 dX5_open_1 rfl rfl ?_
  refine a_puti F fl_5_19 rfl rfl rfl rfl (hB _ (by decide)) rfl dX5_open_2 ?_
  refine a_aload_n F 0 dX5_open_5 rfl rfl ?_
  refine a_iconst (v := 0) F dX5_open_6 (by decide) ?_
  refine a_puti F fl_5_22 rfl rfl rfl rfl (hB _ (by decide)) rfl dX5_open_7 ?_
  refine a_aload_n F 0 dX5_open_10 rfl rfl ?_
  refine a_iconst (v := 0) F dX5_open_11 (by decide) ?_
  refine a_puti F fl_5_25 rfl rfl rfl rfl (hB _ (by decide)) rfl dX5_open_12 ?_
  refine a_aload_n F 0 dX5_open_15 rfl rfl ?_
  refine a_iconst (v := (-1)) F dX5_open_16 (by decide) ?_
  refine a_puti F fl_5_9 rfl rfl rfl rfl (hB _ (by decide)) rfl dX5_open_17 ?_
  refine a_aload_n F 0 dX5_open_20 rfl rfl ?_
  refine a_callV (b := 104) (As := []) (st := []) (ci := 5) F (c_5_readI (xl X) hP (up2 (up2 (up2 (up2 I 104 1 x1) 104 2 0) 104 7 0) 104 8 (-1)) A J hB (o_1)) ml_5_28 im_yX5_read se_yX5_read (by decide) (by decide) rfl (hB _ (by decide)) rfl rfl dX5_open_21 (by decide) (Nat.le_refl 0) (Nat.le_refl 0) (hl_r (hB _ (by decide)) (hl_i hl_nil)) hs_nil ?_
  rintro _ _ _ ⟨rfl, rfl, rfl⟩ _
  show WA X (mC P O (rgI (up2 (up2 (up2 (up2 I 104 1 x1) 104 2 0) 104 7 0) 104 8 (-1)) (A 121)) A J) pl 0 0 24 [(0, .ref 104), (1, .int x1)] []
  exact a_vret F E dX5_open_24 (Nat.le_refl 0) (Nat.le_refl 0) (e_2)

set_option maxRecDepth 10000 in
theorem c_5_open (l : Launch) {P O : Nat → Nat → Option Nat} (hP : laP P) (I A : Nat → Nat → Int32) (J : Nat → Nat → Int64) {pl : List Nat} (hB : inB pl) (n : Int32) (h : okRd (opI I n)) : Con l 6 yX5_open cX5_open 2 none [.ref 104, .int n] (mC P O I A J) pl 0 0 (PC none P O (rgI (opI I n) (A 121)) A J pl) := by
  refine Con.of (by decide) (Nat.le_of_ble_eq_true rfl) (fun X hX9 hn9 F E => ?_)
  refine r_5_open_0 F E hP hB ?_ ?_ <;> (clear F E hn9 hX9; (try clear X); first | exact h | exact ⟨rfl, rfl, rfl⟩)
