def tokC (I : Nat → Nat → Int32) (a b c d e : Int32) : Nat → Nat → Int32 := up2 (up2 (up2 (up2 (up2 I 104 2 a) 104 3 b) 104 4 c) 104 5 d) 104 6 e
theorem tc_self (I : Nat → Nat → Int32) : tokC I (I 104 2) (I 104 3) (I 104 4) (I 104 5) (I 104 6) = I := by
  funext q k; by_cases hq : q = 104 <;> by_cases h1 : k = 2 <;> by_cases h2 : k = 3 <;> by_cases h3 : k = 4 <;> by_cases h4 : k = 5 <;> by_cases h5 : k = 6 <;> simp_all [tokC, up2, va_up]
theorem tc2 (I : Nat → Nat → Int32) (a b c d e w : Int32) : up2 (tokC I a b c d e) 104 2 w = tokC I w b c d e := by
  funext q k; by_cases hq : q = 104 <;> by_cases h1 : k = 2 <;> by_cases h2 : k = 3 <;> by_cases h3 : k = 4 <;> by_cases h4 : k = 5 <;> by_cases h5 : k = 6 <;> simp_all [tokC, up2, va_up]
theorem tc3 (I : Nat → Nat → Int32) (a b c d e w : Int32) : up2 (tokC I a b c d e) 104 3 w = tokC I a w c d e := by
  funext q k; by_cases hq : q = 104 <;> by_cases h1 : k = 2 <;> by_cases h2 : k = 3 <;> by_cases h3 : k = 4 <;> by_cases h4 : k = 5 <;> by_cases h5 : k = 6 <;> simp_all [tokC, up2, va_up]
theorem tc4 (I : Nat → Nat → Int32) (a b c d e w : Int32) : up2 (tokC I a b c d e) 104 4 w = tokC I a b w d e := by
  funext q k; by_cases hq : q = 104 <;> by_cases h1 : k = 2 <;> by_cases h2 : k = 3 <;> by_cases h3 : k = 4 <;> by_cases h4 : k = 5 <;> by_cases h5 : k = 6 <;> simp_all [tokC, up2, va_up]
theorem tc5 (I : Nat → Nat → Int32) (a b c d e w : Int32) : up2 (tokC I a b c d e) 104 5 w = tokC I a b c w e := by
  funext q k; by_cases hq : q = 104 <;> by_cases h1 : k = 2 <;> by_cases h2 : k = 3 <;> by_cases h3 : k = 4 <;> by_cases h4 : k = 5 <;> by_cases h5 : k = 6 <;> simp_all [tokC, up2, va_up]
theorem tc6 (I : Nat → Nat → Int32) (a b c d e w : Int32) : up2 (tokC I a b c d e) 104 6 w = tokC I a b c d w := by
  funext q k; by_cases hq : q = 104 <;> by_cases h1 : k = 2 <;> by_cases h2 : k = 3 <;> by_cases h3 : k = 4 <;> by_cases h4 : k = 5 <;> by_cases h5 : k = 6 <;> simp_all [tokC, up2, va_up]
def valD (T : Nat → Int32) (p : Nat) : Nat → Nat → Int32 → Int32
  | 0, _, v => v
  | f + 1, i, v => if bDg (T i) = true then valD T p f (i + 1) (if 2 ≤ i - p then v else 10 * v + T i - 48) else v
def tkA (T : Nat → Int32) (n p : Nat) : Nat := if n ≤ p then p else if bDg (T p) = true then endT bDg T n p else if bLt (T p) = true then endT bLt T n p else p + 1
def tkZ (T : Nat → Int32) (n p : Nat) : Nat := if n ≤ p then 0 else if bDg (T p) = true then endT bDg T n p - p else if bLt (T p) = true then endT bLt T n p - p else 1
def tkK (T : Nat → Int32) (n p : Nat) : Int32 := if n ≤ p then 0 else if bDg (T p) = true then 1 else if bLt (T p) = true then 2 else if bSg (T p) = true then 3 else 4
def tkW (T : Nat → Int32) (n p : Nat) : Int32 := if n ≤ p then 0 else if bDg (T p) = true then valD T p (n - p) p 0 else if bLt (T p) = true then 0 else T p
def tkI (I : Nat → Nat → Int32) (T : Nat → Int32) (n p : Nat) : Nat → Nat → Int32 := tokC I (nI (tkA T n p)) (nI p) (nI (tkZ T n p)) (tkK T n p) (tkW T n p)
def rdP (I : Nat → Nat → Int32) (n p sz : Nat) : Prop := p ≤ n ∧ n ≤ sz ∧ sz ≤ 400 ∧ I 104 1 = nI n ∧ I 104 2 = nI p ∧ I 120 1 = nI sz

theorem r_5_readNumber_0 {X : Ctx} (F : Fx X cX5_readNumber RX5 1 3 0 0) {P O : Nat → Nat → Option Nat} (hP : laP P) {I A : Nat → Nat → Int32} {J : Nat → Nat → Int64} {pl : List Nat} (hB : inB pl)
    (e_1 : WA X (mC P O (up2 I 104 5 1) A J) pl 0 0 5 [(0, .ref 104)] []) :
    WA X (mC P O I A J) pl 0 0 0 [(0, .ref 104)] [] := by
  refine a_aload_n F 0 dX5_readNumber_0 rfl rfl ?_
  refine a_iconst (v := 1) F dX5_readNumber_1 (by decide) ?_
  refine a_puti F fl_5_49 rfl rfl rfl rfl (hB _ (by decide)) rfl dX5_readNumber_2 ?_
  exact e_1

theorem r_5_readNumber_5 {X : Ctx} (F : Fx X cX5_readNumber RX5 1 3 0 0) {Φ : Option Value → HS → List Nat → Prop} (E : Ex X none 0 0 Φ) {P O : Nat → Nat → Option Nat} (hP : laP P) {I A : Nat → Nat → Int32} {J : Nat → Nat → Int64} {pl : List Nat} (hB : inB pl)
    (e_1 : ((I 104 1) ≤ (I 104 2)) → Φ none (mC P O I A J) pl)
    (o_2 : (¬ ((I 104 1) ≤ (I 104 2))) → szO (I 120 1))
    (e_3 : (¬ ((I 104 1) ≤ (I 104 2))) → (bDg (atI (A 121) (I 120 1) (I 104 2)) = true) → (2 < ((I 104 4) + 1)) → WA X (mC P O (up2 (up2 (up2 I 104 4 ((I 104 4) + 1)) 104 6 (I 104 6)) 104 2 ((I 104 2) + 1)) A J) pl 0 0 5 [(0, .ref 104)] [])
    (o_4 : (¬ ((I 104 1) ≤ (I 104 2))) → (bDg (atI (A 121) (I 120 1) (I 104 2)) = true) → (¬ (2 < ((I 104 4) + 1))) → szO (I 120 1))
    (e_5 : (¬ ((I 104 1) ≤ (I 104 2))) → (bDg (atI (A 121) (I 120 1) (I 104 2)) = true) → (¬ (2 < ((I 104 4) + 1))) → WA X (mC P O (up2 (up2 (up2 I 104 4 ((I 104 4) + 1)) 104 6 (((10 * (I 104 6)) + (atI (A 121) (I 120 1) (I 104 2))) - 48)) 104 2 ((I 104 2) + 1)) A J) pl 0 0 5 [(0, .ref 104)] [])
    (e_6 : (¬ ((I 104 1) ≤ (I 104 2))) → (¬ (bDg (atI (A 121) (I 120 1) (I 104 2)) = true)) → Φ none (mC P O I A J) pl) :
    WA X (mC P O I A J) pl 0 0 5 [(0, .ref 104)] [] := by
  refine a_aload_n F 0 dX5_readNumber_5 rfl rfl ?_
  refine a_geti F fl_5_22 rfl (hB _ (by decide)) rfl dX5_readNumber_6 ?_
  refine a_aload_n F 0 dX5_readNumber_9 rfl rfl ?_
  refine a_geti F fl_5_19 rfl (hB _ (by decide)) rfl dX5_readNumber_10 ?_
  refine a_icmp_ge (tgt := 97) F dX5_readNumber_13 (by decide) (fun (c_1 : (I 104 1) ≤ (I 104 2)) => ?_) (fun (c_1 : ¬ ((I 104 1) ≤ (I 104 2))) => ?_)
  · exact a_vret F E dX5_readNumber_97 (Nat.le_refl 0) (Nat.le_refl 0) (e_1 c_1)
  · refine a_aload_n F 0 dX5_readNumber_16 rfl rfl ?_
    refine a_getr (b := 120) F fl_5_15 rfl (hB _ (by decide)) rfl ((hP 104 0 (by decide)).trans rfl) dX5_readNumber_17 ?_
    refine a_aload_n F 0 dX5_readNumber_20 rfl rfl ?_
    refine a_geti F fl_5_22 rfl (hB _ (by decide)) rfl dX5_readNumber_21 ?_
    refine a_callV (b := 120) (As := [.int (I 104 2)]) (st := []) (ci := 1) F (c_1_atI (xl X) hP I A J hB 120 rfl (hB _ (by decide)) (hB _ (by decide)) (I 104 2) (o_2 c_1)) ml_5_31 im_yX1_at se_yX1_at (by decide) (by decide) rfl (hB _ (by decide)) rfl rfl dX5_readNumber_24 (by decide) (Nat.le_refl 0) (Nat.le_refl 0) (hl_r (hB _ (by decide)) hl_nil) hs_nil ?_
    rintro _ _ _ ⟨rfl, rfl, rfl⟩ _
    show WA X (mC P O I A J) pl 0 0 27 [(0, .ref 104)] [.int (atI (A 121) (I 120 1) (I 104 2))]
    refine a_callS (As := [.int (atI (A 121) (I 120 1) (I 104 2))]) (st := []) F (c_5_isDigit (xl X) hP I A J hB (atI (A 121) (I 120 1) (I 104 2))) ml_5_52 sm_yX5_isDigit (by decide) rfl dX5_readNumber_27 (by decide) (Nat.le_refl 0) (Nat.le_refl 0) (hl_r (hB _ (by decide)) hl_nil) hs_nil ?_
    rintro _ _ _ ⟨rfl, rfl, rfl⟩ _
    show WA X (mC P O I A J) pl 0 0 30 [(0, .ref 104)] [.int (if bDg (atI (A 121) (I 120 1) (I 104 2)) = true then 1 else 0)]
    refine a_ite (fun (c_2 : bDg (atI (A 121) (I 120 1) (I 104 2)) = true) => ?_) (fun (c_2 : ¬ (bDg (atI (A 121) (I 120 1) (I 104 2)) = true)) => ?_)
    · refine a_if_eq (tgt := 97) F dX5_readNumber_30 (by decide) (fun (c_3 : (1 : Int32) = 0) => ?_) (fun (c_3 : ¬ ((1 : Int32) = 0)) => ?_)
      · exact absurd c_3 (by decide)
      · refine a_aload_n F 0 dX5_readNumber_33 rfl rfl ?_
        refine a_dup F dX5_readNumber_34 rfl ?_
        refine a_geti F fl_5_43 rfl (hB _ (by decide)) rfl dX5_readNumber_35 ?_
        refine a_iconst (v := 1) F dX5_readNumber_38 (by decide) ?_
        refine a_iadd F dX5_readNumber_39 ?_
        refine a_puti F fl_5_43 rfl rfl rfl rfl (hB _ (by decide)) rfl dX5_readNumber_40 ?_
        refine a_aload_n F 0 dX5_readNumber_43 rfl rfl ?_
        refine a_aload_n F 0 dX5_readNumber_44 rfl rfl ?_
        refine a_geti F fl_5_43 rfl (hB _ (by decide)) rfl dX5_readNumber_45 ?_
        refine a_iconst (v := 2) F dX5_readNumber_48 (by decide) ?_
        refine a_icmp_gt (tgt := 77) F dX5_readNumber_49 (by decide) (fun (c_4 : 2 < ((I 104 4) + 1)) => ?_) (fun (c_4 : ¬ (2 < ((I 104 4) + 1))) => ?_)
        · refine a_aload_n F 0 dX5_readNumber_77 rfl rfl ?_
          refine a_geti F fl_5_46 rfl (hB _ (by decide)) rfl dX5_readNumber_78 ?_
          refine a_puti F fl_5_46 rfl rfl rfl rfl (hB _ (by decide)) rfl dX5_readNumber_81 ?_
          refine a_aload_n F 0 dX5_readNumber_84 rfl rfl ?_
          refine a_dup F dX5_readNumber_85 rfl ?_
          refine a_geti F fl_5_22 rfl (hB _ (by decide)) rfl dX5_readNumber_86 ?_
          refine a_iconst (v := 1) F dX5_readNumber_89 (by decide) ?_
          refine a_iadd F dX5_readNumber_90 ?_
          refine a_puti F fl_5_22 rfl rfl rfl rfl (hB _ (by decide)) rfl dX5_readNumber_91 ?_
          refine a_goto (tgt := 5) F dX5_readNumber_94 (by decide) ?_
          exact e_3 c_1 c_2 c_4
        · refine a_bipush (v := 10) F dX5_readNumber_52 (by decide) ?_
          refine a_aload_n F 0 dX5_readNumber_54 rfl rfl ?_
          refine a_geti F fl_5_46 rfl (hB _ (by decide)) rfl dX5_readNumber_55 ?_
          refine a_imul F dX5_readNumber_58 ?_
          refine a_aload_n F 0 dX5_readNumber_59 rfl rfl ?_
          refine a_getr (b := 120) F fl_5_15 rfl (hB _ (by decide)) rfl ((hP 104 0 (by decide)).trans rfl) dX5_readNumber_60 ?_
          refine a_aload_n F 0 dX5_readNumber_63 rfl rfl ?_
          refine a_geti F fl_5_22 rfl (hB _ (by decide)) rfl dX5_readNumber_64 ?_
          refine a_callV (b := 120) (As := [.int (I 104 2)]) (st := [.int (10 * (I 104 6)), .ref 104]) (ci := 1) F (c_1_atI (xl X) hP (up2 I 104 4 ((I 104 4) + 1)) A J hB 120 rfl (hB _ (by decide)) (hB _ (by decide)) (I 104 2) (o_4 c_1 c_2 c_4)) ml_5_31 im_yX1_at se_yX1_at (by decide) (by decide) rfl (hB _ (by decide)) rfl rfl dX5_readNumber_67 (Nat.le_of_ble_eq_true rfl) (Nat.le_refl 0) (Nat.le_refl 0) (hl_r (hB _ (by decide)) hl_nil) (hs_i (hs_r (hB _ (by decide)) hs_nil)) ?_
          rintro _ _ _ ⟨rfl, rfl, rfl⟩ _
          show WA X (mC P O (up2 I 104 4 ((I 104 4) + 1)) A J) pl 0 0 70 [(0, .ref 104)] [.int (atI (A 121) (I 120 1) (I 104 2)), .int (10 * (I 104 6)), .ref 104]
          refine a_iadd F dX5_readNumber_70 ?_
          refine a_bipush (v := 48) F dX5_readNumber_71 (by decide) ?_
          refine a_isub F dX5_readNumber_73 ?_
          refine a_goto (tgt := 81) F dX5_readNumber_74 (by decide) ?_
          refine a_puti F fl_5_46 rfl rfl rfl rfl (hB _ (by decide)) rfl dX5_readNumber_81 ?_
          refine a_aload_n F 0 dX5_readNumber_84 rfl rfl ?_
          refine a_dup F dX5_readNumber_85 rfl ?_
          refine a_geti F fl_5_22 rfl (hB _ (by decide)) rfl dX5_readNumber_86 ?_
          refine a_iconst (v := 1) F dX5_readNumber_89 (by decide) ?_
          refine a_iadd F dX5_readNumber_90 ?_
          refine a_puti F fl_5_22 rfl rfl rfl rfl (hB _ (by decide)) rfl dX5_readNumber_91 ?_
          refine a_goto (tgt := 5) F dX5_readNumber_94 (by decide) ?_
          exact e_5 c_1 c_2 c_4
    · refine a_if_eq (tgt := 97) F dX5_readNumber_30 (by decide) (fun (c_5 : (0 : Int32) = 0) => ?_) (fun (c_5 : ¬ ((0 : Int32) = 0)) => ?_)
      · exact a_vret F E dX5_readNumber_97 (Nat.le_refl 0) (Nat.le_refl 0) (e_6 c_1 c_2)
      · exact absurd c_5 (by decide)

set_option maxRecDepth 10000 in
theorem c_5_readNumber (l : Launch) {P O : Nat → Nat → Option Nat} (hP : laP P) (I A : Nat → Nat → Int32) (J : Nat → Nat → Int64) {pl : List Nat} (hB : inB pl) (n p sz : Nat) (h : rdP I n p sz) (hz : I 104 4 = 0) (hv : I 104 6 = 0) : Con l 3 yX5_readNumber cX5_readNumber 1 none [.ref 104] (mC P O I A J) pl 0 0 (PC none P O (tokC I (nI (endT bDg (A 121) n p)) (I 104 3) (nI (endT bDg (A 121) n p - p)) 1 (valD (A 121) p (n - p) p 0)) A J pl) := by
  refine Con.of (by decide) (Nat.le_of_ble_eq_true rfl) (fun X hX9 hn9 F E => ?_)
  obtain ⟨hpn, hn, hs, h1, h2, h3⟩ := h
  have lp : ∀ f j (v : Int32), j + f = n → p ≤ j → endT bDg (A 121) n p = endT bDg (A 121) n j → valD (A 121) p (n - p) p 0 = valD (A 121) p (n - j) j v → WA X (mC P O (tokC I (nI j) (I 104 3) (nI (j - p)) 1 v) A J) pl 0 0 5 [(0, .ref 104)] [] := by
    intro f
    induction f with
    | zero =>
      intro j v hj hp he hvv
      obtain rfl : j = n := by omega
      have h : tokC I (nI j) (I 104 3) (nI (j - p)) 1 v 104 1 ≤ tokC I (nI j) (I 104 3) (nI (j - p)) 1 v 104 2 := by show I 104 1 ≤ nI j; rw [h1]; exact Int32.le_refl _
      refine r_5_readNumber_5 F E hP hB (fun _ => ⟨rfl, ?_, rfl⟩) (fun z => absurd h z) (fun z => absurd h z) (fun z => absurd h z) (fun z => absurd h z) (fun z => absurd h z)
      rw [he, endT_n (Nat.le_refl _), hvv, Nat.sub_self]; rfl
    | succ f ih =>
      intro j v hj hp he hvv
      have h : ¬ tokC I (nI j) (I 104 3) (nI (j - p)) 1 v 104 1 ≤ tokC I (nI j) (I 104 3) (nI (j - p)) 1 v 104 2 := by
        show ¬ I 104 1 ≤ nI j
        rw [h1]; exact fun z => by have := (nI_leI (by omega) (by omega)).mp z; omega
      have ea : atI (A 121) (tokC I (nI j) (I 104 3) (nI (j - p)) 1 v 120 1) (tokC I (nI j) (I 104 3) (nI (j - p)) 1 v 104 2) = A 121 j := by
        show atI (A 121) (I 120 1) (nI j) = _
        rw [h3]; exact atI_in (by omega) hs
      have hsz : szO (tokC I (nI j) (I 104 3) (nI (j - p)) 1 v 120 1) := by show I 120 1 ≤ 400; rw [h3]; exact (nI_len 400 (by omega) (by omega)).mpr hs
      have e4 : tokC I (nI j) (I 104 3) (nI (j - p)) 1 v 104 4 = nI (j - p) := rfl
      have e6 : tokC I (nI j) (I 104 3) (nI (j - p)) 1 v 104 6 = v := rfl
      have e2 : tokC I (nI j) (I 104 3) (nI (j - p)) 1 v 104 2 = nI j := rfl
      have c2 : 2 < nI (j - p) + 1 ↔ 2 ≤ j - p := by rw [nI_1, show (2 : Int32) < nI (j - p + 1) ↔ 2 < j - p + 1 from nI_gtn 2 (by omega) (by omega)]; omega
      refine r_5_readNumber_5 F E hP hB (fun z => absurd z h) (fun _ => hsz) (fun _ z1 z2 => ?_) (fun _ _ _ => hsz) (fun _ z1 z2 => ?_) (fun _ z1 => ⟨rfl, ?_, rfl⟩)
      all_goals rw [ea] at z1
      · rw [e4] at z2
        rw [e4, e6, e2, tc4, tc6, tc2, nI_1, nI_1, show j - p + 1 = j + 1 - p by omega]
        refine ih (j + 1) v (by omega) (by omega) (by rw [he, endT_t (by omega) z1]) ?_
        rw [hvv, show n - j = (n - (j + 1)) + 1 by omega]
        simp only [valD]; rw [if_pos z1, if_pos (c2.mp z2)]
      · rw [e4] at z2
        rw [ea, e4, e6, e2, tc4, tc6, tc2, nI_1, nI_1, show j - p + 1 = j + 1 - p by omega]
        refine ih (j + 1) _ (by omega) (by omega) (by rw [he, endT_t (by omega) z1]) ?_
        rw [hvv, show n - j = (n - (j + 1)) + 1 by omega]
        simp only [valD]; rw [if_pos z1, if_neg (fun w => z2 (c2.mpr w))]
      · rw [he, endT_f (by omega) z1, hvv, show n - j = (n - (j + 1)) + 1 by omega]
        simp only [valD]; rw [if_neg z1]
  refine r_5_readNumber_0 F hP hB ?_
  have := lp (n - p) p 0 (by omega) (Nat.le_refl _) rfl rfl
  rw [Nat.sub_self, ← h2, show nI 0 = I 104 4 from hz.symm, ← tc5 (d := I 104 5), ← hv, tc_self] at this
  exact this

theorem r_5_readWord_0 {X : Ctx} (F : Fx X cX5_readWord RX5 1 3 0 0) {P O : Nat → Nat → Option Nat} (hP : laP P) {I A : Nat → Nat → Int32} {J : Nat → Nat → Int64} {pl : List Nat} (hB : inB pl)
    (e_1 : WA X (mC P O (up2 I 104 5 2) A J) pl 0 0 5 [(0, .ref 104)] []) :
    WA X (mC P O I A J) pl 0 0 0 [(0, .ref 104)] [] := by
  refine a_aload_n F 0 dX5_readWord_0 rfl rfl ?_
  refine a_iconst (v := 2) F dX5_readWord_1 (by decide) ?_
  refine a_puti F fl_5_49 rfl rfl rfl rfl (hB _ (by decide)) rfl dX5_readWord_2 ?_
  exact e_1

theorem r_5_readWord_5 {X : Ctx} (F : Fx X cX5_readWord RX5 1 3 0 0) {Φ : Option Value → HS → List Nat → Prop} (E : Ex X none 0 0 Φ) {P O : Nat → Nat → Option Nat} (hP : laP P) {I A : Nat → Nat → Int32} {J : Nat → Nat → Int64} {pl : List Nat} (hB : inB pl)
    (e_1 : ((I 104 1) ≤ (I 104 2)) → Φ none (mC P O I A J) pl)
    (o_2 : (¬ ((I 104 1) ≤ (I 104 2))) → szO (I 120 1))
    (e_3 : (¬ ((I 104 1) ≤ (I 104 2))) → (bLt (atI (A 121) (I 120 1) (I 104 2)) = true) → WA X (mC P O (up2 (up2 I 104 4 ((I 104 4) + 1)) 104 2 ((I 104 2) + 1)) A J) pl 0 0 5 [(0, .ref 104)] [])
    (e_4 : (¬ ((I 104 1) ≤ (I 104 2))) → (¬ (bLt (atI (A 121) (I 120 1) (I 104 2)) = true)) → Φ none (mC P O I A J) pl) :
    WA X (mC P O I A J) pl 0 0 5 [(0, .ref 104)] [] := by
  refine a_aload_n F 0 dX5_readWord_5 rfl rfl ?_
  refine a_geti F fl_5_22 rfl (hB _ (by decide)) rfl dX5_readWord_6 ?_
  refine a_aload_n F 0 dX5_readWord_9 rfl rfl ?_
  refine a_geti F fl_5_19 rfl (hB _ (by decide)) rfl dX5_readWord_10 ?_
  refine a_icmp_ge (tgt := 56) F dX5_readWord_13 (by decide) (fun (c_1 : (I 104 1) ≤ (I 104 2)) => ?_) (fun (c_1 : ¬ ((I 104 1) ≤ (I 104 2))) => ?_)
  · exact a_vret F E dX5_readWord_56 (Nat.le_refl 0) (Nat.le_refl 0) (e_1 c_1)
  · refine a_aload_n F 0 dX5_readWord_16 rfl rfl ?_
    refine a_getr (b := 120) F fl_5_15 rfl (hB _ (by decide)) rfl ((hP 104 0 (by decide)).trans rfl) dX5_readWord_17 ?_
    refine a_aload_n F 0 dX5_readWord_20 rfl rfl ?_
    refine a_geti F fl_5_22 rfl (hB _ (by decide)) rfl dX5_readWord_21 ?_
    refine a_callV (b := 120) (As := [.int (I 104 2)]) (st := []) (ci := 1) F (c_1_atI (xl X) hP I A J hB 120 rfl (hB _ (by decide)) (hB _ (by decide)) (I 104 2) (o_2 c_1)) ml_5_31 im_yX1_at se_yX1_at (by decide) (by decide) rfl (hB _ (by decide)) rfl rfl dX5_readWord_24 (by decide) (Nat.le_refl 0) (Nat.le_refl 0) (hl_r (hB _ (by decide)) hl_nil) hs_nil ?_
    rintro _ _ _ ⟨rfl, rfl, rfl⟩ _
    show WA X (mC P O I A J) pl 0 0 27 [(0, .ref 104)] [.int (atI (A 121) (I 120 1) (I 104 2))]
    refine a_callS (As := [.int (atI (A 121) (I 120 1) (I 104 2))]) (st := []) F (c_5_isLetter (xl X) hP I A J hB (atI (A 121) (I 120 1) (I 104 2))) ml_5_58 sm_yX5_isLetter (by decide) rfl dX5_readWord_27 (by decide) (Nat.le_refl 0) (Nat.le_refl 0) (hl_r (hB _ (by decide)) hl_nil) hs_nil ?_
    rintro _ _ _ ⟨rfl, rfl, rfl⟩ _
    show WA X (mC P O I A J) pl 0 0 30 [(0, .ref 104)] [.int (if bLt (atI (A 121) (I 120 1) (I 104 2)) = true then 1 else 0)]
    refine a_ite (fun (c_2 : bLt (atI (A 121) (I 120 1) (I 104 2)) = true) => ?_) (fun (c_2 : ¬ (bLt (atI (A 121) (I 120 1) (I 104 2)) = true)) => ?_)
    · refine a_if_eq (tgt := 56) F dX5_readWord_30 (by decide) (fun (c_3 : (1 : Int32) = 0) => ?_) (fun (c_3 : ¬ ((1 : Int32) = 0)) => ?_)
      · exact absurd c_3 (by decide)
      · refine a_aload_n F 0 dX5_readWord_33 rfl rfl ?_
        refine a_dup F dX5_readWord_34 rfl ?_
        refine a_geti F fl_5_43 rfl (hB _ (by decide)) rfl dX5_readWord_35 ?_
        refine a_iconst (v := 1) F dX5_readWord_38 (by decide) ?_
        refine a_iadd F dX5_readWord_39 ?_
        refine a_puti F fl_5_43 rfl rfl rfl rfl (hB _ (by decide)) rfl dX5_readWord_40 ?_
        refine a_aload_n F 0 dX5_readWord_43 rfl rfl ?_
        refine a_dup F dX5_readWord_44 rfl ?_
        refine a_geti F fl_5_22 rfl (hB _ (by decide)) rfl dX5_readWord_45 ?_
        refine a_iconst (v := 1) F dX5_readWord_48 (by decide) ?_
        refine a_iadd F dX5_readWord_49 ?_
        refine a_puti F fl_5_22 rfl rfl rfl rfl (hB _ (by decide)) rfl dX5_readWord_50 ?_
        refine a_goto (tgt := 5) F dX5_readWord_53 (by decide) ?_
        exact e_3 c_1 c_2
    · refine a_if_eq (tgt := 56) F dX5_readWord_30 (by decide) (fun (c_4 : (0 : Int32) = 0) => ?_) (fun (c_4 : ¬ ((0 : Int32) = 0)) => ?_)
      · exact a_vret F E dX5_readWord_56 (Nat.le_refl 0) (Nat.le_refl 0) (e_4 c_1 c_2)
      · exact absurd c_4 (by decide)

set_option maxRecDepth 10000 in
theorem c_5_readWord (l : Launch) {P O : Nat → Nat → Option Nat} (hP : laP P) (I A : Nat → Nat → Int32) (J : Nat → Nat → Int64) {pl : List Nat} (hB : inB pl) (n p sz : Nat) (h : rdP I n p sz) (hz : I 104 4 = 0) : Con l 3 yX5_readWord cX5_readWord 1 none [.ref 104] (mC P O I A J) pl 0 0 (PC none P O (tokC I (nI (endT bLt (A 121) n p)) (I 104 3) (nI (endT bLt (A 121) n p - p)) 2 (I 104 6)) A J pl) := by
  refine Con.of (by decide) (Nat.le_of_ble_eq_true rfl) (fun X hX9 hn9 F E => ?_)
  obtain ⟨hpn, hn, hs, h1, h2, h3⟩ := h
  have lp : ∀ f j, j + f = n → p ≤ j → endT bLt (A 121) n p = endT bLt (A 121) n j → WA X (mC P O (tokC I (nI j) (I 104 3) (nI (j - p)) 2 (I 104 6)) A J) pl 0 0 5 [(0, .ref 104)] [] := by
    intro f
    induction f with
    | zero =>
      intro j hj hp he
      obtain rfl : j = n := by omega
      have h : tokC I (nI j) (I 104 3) (nI (j - p)) 2 (I 104 6) 104 1 ≤ tokC I (nI j) (I 104 3) (nI (j - p)) 2 (I 104 6) 104 2 := by show I 104 1 ≤ nI j; rw [h1]; exact Int32.le_refl _
      refine r_5_readWord_5 F E hP hB (fun _ => ⟨rfl, ?_, rfl⟩) (fun z => absurd h z) (fun z => absurd h z) (fun z => absurd h z)
      rw [he, endT_n (Nat.le_refl _)]
    | succ f ih =>
      intro j hj hp he
      have h : ¬ tokC I (nI j) (I 104 3) (nI (j - p)) 2 (I 104 6) 104 1 ≤ tokC I (nI j) (I 104 3) (nI (j - p)) 2 (I 104 6) 104 2 := by
        show ¬ I 104 1 ≤ nI j
        rw [h1]; exact fun z => by have := (nI_leI (by omega) (by omega)).mp z; omega
      have ea : atI (A 121) (tokC I (nI j) (I 104 3) (nI (j - p)) 2 (I 104 6) 120 1) (tokC I (nI j) (I 104 3) (nI (j - p)) 2 (I 104 6) 104 2) = A 121 j := by
        show atI (A 121) (I 120 1) (nI j) = _
        rw [h3]; exact atI_in (by omega) hs
      have hsz : szO (tokC I (nI j) (I 104 3) (nI (j - p)) 2 (I 104 6) 120 1) := by show I 120 1 ≤ 400; rw [h3]; exact (nI_len 400 (by omega) (by omega)).mpr hs
      have e4 : tokC I (nI j) (I 104 3) (nI (j - p)) 2 (I 104 6) 104 4 = nI (j - p) := rfl
      have e2 : tokC I (nI j) (I 104 3) (nI (j - p)) 2 (I 104 6) 104 2 = nI j := rfl
      refine r_5_readWord_5 F E hP hB (fun z => absurd z h) (fun _ => hsz) (fun _ z1 => ?_) (fun _ z1 => ⟨rfl, ?_, rfl⟩)
      all_goals rw [ea] at z1
      · rw [e4, e2, tc4, tc2, nI_1, nI_1, show j - p + 1 = j + 1 - p by omega]
        exact ih (j + 1) (by omega) (by omega) (by rw [he, endT_t (by omega) z1])
      · rw [he, endT_f (by omega) z1]
  refine r_5_readWord_0 F hP hB ?_
  have := lp (n - p) p (by omega) (Nat.le_refl _) rfl
  rw [Nat.sub_self, ← h2, show nI 0 = I 104 4 from hz.symm, ← tc5 (d := I 104 5), tc_self] at this
  exact this

theorem r_5_readSign_0 {X : Ctx} (F : Fx X cX5_readSign RX5 1 3 0 0) {Φ : Option Value → HS → List Nat → Prop} (E : Ex X none 0 0 Φ) {P O : Nat → Nat → Option Nat} (hP : laP P) {I A : Nat → Nat → Int32} {J : Nat → Nat → Int64} {pl : List Nat} (hB : inB pl)
    (o_1 : szO (I 120 1))
    (e_2 : ((atI (A 121) (I 120 1) (I 104 2)) < 33) → Φ none (mC P O (up2 (up2 (up2 (up2 I 104 6 (atI (A 121) (I 120 1) (I 104 2))) 104 5 4) 104 4 1) 104 2 ((I 104 2) + 1)) A J) pl)
    (e_3 : (¬ ((atI (A 121) (I 120 1) (I 104 2)) < 33)) → (126 < (atI (A 121) (I 120 1) (I 104 2))) → Φ none (mC P O (up2 (up2 (up2 (up2 I 104 6 (atI (A 121) (I 120 1) (I 104 2))) 104 5 4) 104 4 1) 104 2 ((I 104 2) + 1)) A J) pl)
    (e_4 : (¬ ((atI (A 121) (I 120 1) (I 104 2)) < 33)) → (¬ (126 < (atI (A 121) (I 120 1) (I 104 2)))) → Φ none (mC P O (up2 (up2 (up2 (up2 I 104 6 (atI (A 121) (I 120 1) (I 104 2))) 104 5 3) 104 4 1) 104 2 ((I 104 2) + 1)) A J) pl) :
    WA X (mC P O I A J) pl 0 0 0 [(0, .ref 104)] [] := by
  refine a_aload_n F 0 dX5_readSign_0 rfl rfl ?_
  refine a_aload_n F 0 dX5_readSign_1 rfl rfl ?_
  refine a_getr (b := 120) F fl_5_15 rfl (hB _ (by decide)) rfl ((hP 104 0 (by decide)).trans rfl) dX5_readSign_2 ?_
  refine a_aload_n F 0 dX5_readSign_5 rfl rfl ?_
  refine a_geti F fl_5_22 rfl (hB _ (by decide)) rfl dX5_readSign_6 ?_
  refine a_callV (b := 120) (As := [.int (I 104 2)]) (st := [.ref 104]) (ci := 1) F (c_1_atI (xl X) hP I A J hB 120 rfl (hB _ (by decide)) (hB _ (by decide)) (I 104 2) (o_1)) ml_5_31 im_yX1_at se_yX1_at (by decide) (by decide) rfl (hB _ (by decide)) rfl rfl dX5_readSign_9 (Nat.le_of_ble_eq_true rfl) (Nat.le_refl 0) (Nat.le_refl 0) (hl_r (hB _ (by decide)) hl_nil) (hs_r (hB _ (by decide)) hs_nil) ?_
  rintro _ _ _ ⟨rfl, rfl, rfl⟩ _
  show WA X (mC P O I A J) pl 0 0 12 [(0, .ref 104)] [.int (atI (A 121) (I 120 1) (I 104 2)), .ref 104]
  refine a_puti F fl_5_46 rfl rfl rfl rfl (hB _ (by decide)) rfl dX5_readSign_12 ?_
  refine a_aload_n F 0 dX5_readSign_15 rfl rfl ?_
  refine a_aload_n F 0 dX5_readSign_16 rfl rfl ?_
  refine a_geti F fl_5_46 rfl (hB _ (by decide)) rfl dX5_readSign_17 ?_
  refine a_bipush (v := 33) F dX5_readSign_20 (by decide) ?_
  refine a_icmp_lt (tgt := 38) F dX5_readSign_22 (by decide) (fun (c_1 : (atI (A 121) (I 120 1) (I 104 2)) < 33) => ?_) (fun (c_1 : ¬ ((atI (A 121) (I 120 1) (I 104 2)) < 33)) => ?_)
  · refine a_iconst (v := 4) F dX5_readSign_38 (by decide) ?_
    refine a_puti F fl_5_49 rfl rfl rfl rfl (hB _ (by decide)) rfl dX5_readSign_39 ?_
    refine a_aload_n F 0 dX5_readSign_42 rfl rfl ?_
    refine a_iconst (v := 1) F dX5_readSign_43 (by decide) ?_
    refine a_puti F fl_5_43 rfl rfl rfl rfl (hB _ (by decide)) rfl dX5_readSign_44 ?_
    refine a_aload_n F 0 dX5_readSign_47 rfl rfl ?_
    refine a_dup F dX5_readSign_48 rfl ?_
    refine a_geti F fl_5_22 rfl (hB _ (by decide)) rfl dX5_readSign_49 ?_
    refine a_iconst (v := 1) F dX5_readSign_52 (by decide) ?_
    refine a_iadd F dX5_readSign_53 ?_
    refine a_puti F fl_5_22 rfl rfl rfl rfl (hB _ (by decide)) rfl dX5_readSign_54 ?_
    exact a_vret F E dX5_readSign_57 (Nat.le_refl 0) (Nat.le_refl 0) (e_2 c_1)
  · refine a_aload_n F 0 dX5_readSign_25 rfl rfl ?_
    refine a_geti F fl_5_46 rfl (hB _ (by decide)) rfl dX5_readSign_26 ?_
    refine a_bipush (v := 126) F dX5_readSign_29 (by decide) ?_
    refine a_icmp_gt (tgt := 38) F dX5_readSign_31 (by decide) (fun (c_2 : 126 < (atI (A 121) (I 120 1) (I 104 2))) => ?_) (fun (c_2 : ¬ (126 < (atI (A 121) (I 120 1) (I 104 2)))) => ?_)
    · refine a_iconst (v := 4) F dX5_readSign_38 (by decide) ?_
      refine a_puti F fl_5_49 rfl rfl rfl rfl (hB _ (by decide)) rfl dX5_readSign_39 ?_
      refine a_aload_n F 0 dX5_readSign_42 rfl rfl ?_
      refine a_iconst (v := 1) F dX5_readSign_43 (by decide) ?_
      refine a_puti F fl_5_43 rfl rfl rfl rfl (hB _ (by decide)) rfl dX5_readSign_44 ?_
      refine a_aload_n F 0 dX5_readSign_47 rfl rfl ?_
      refine a_dup F dX5_readSign_48 rfl ?_
      refine a_geti F fl_5_22 rfl (hB _ (by decide)) rfl dX5_readSign_49 ?_
      refine a_iconst (v := 1) F dX5_readSign_52 (by decide) ?_
      refine a_iadd F dX5_readSign_53 ?_
      refine a_puti F fl_5_22 rfl rfl rfl rfl (hB _ (by decide)) rfl dX5_readSign_54 ?_
      exact a_vret F E dX5_readSign_57 (Nat.le_refl 0) (Nat.le_refl 0) (e_3 c_1 c_2)
    · refine a_iconst (v := 3) F dX5_readSign_34 (by decide) ?_
      refine a_goto (tgt := 39) F dX5_readSign_35 (by decide) ?_
      refine a_puti F fl_5_49 rfl rfl rfl rfl (hB _ (by decide)) rfl dX5_readSign_39 ?_
      refine a_aload_n F 0 dX5_readSign_42 rfl rfl ?_
      refine a_iconst (v := 1) F dX5_readSign_43 (by decide) ?_
      refine a_puti F fl_5_43 rfl rfl rfl rfl (hB _ (by decide)) rfl dX5_readSign_44 ?_
      refine a_aload_n F 0 dX5_readSign_47 rfl rfl ?_
      refine a_dup F dX5_readSign_48 rfl ?_
      refine a_geti F fl_5_22 rfl (hB _ (by decide)) rfl dX5_readSign_49 ?_
      refine a_iconst (v := 1) F dX5_readSign_52 (by decide) ?_
      refine a_iadd F dX5_readSign_53 ?_
      refine a_puti F fl_5_22 rfl rfl rfl rfl (hB _ (by decide)) rfl dX5_readSign_54 ?_
      exact a_vret F E dX5_readSign_57 (Nat.le_refl 0) (Nat.le_refl 0) (e_4 c_1 c_2)

set_option maxRecDepth 10000 in
theorem c_5_readSign (l : Launch) {P O : Nat → Nat → Option Nat} (hP : laP P) (I A : Nat → Nat → Int32) (J : Nat → Nat → Int64) {pl : List Nat} (hB : inB pl) (n p sz : Nat) (h : rdP I n p sz) (hlt : p < n) : Con l 3 yX5_readSign cX5_readSign 1 none [.ref 104] (mC P O I A J) pl 0 0 (PC none P O (tokC I (nI (p + 1)) (I 104 3) 1 (if bSg (A 121 p) = true then 3 else 4) (A 121 p)) A J pl) := by
  refine Con.of (by decide) (Nat.le_of_ble_eq_true rfl) (fun X hX9 hn9 F E => ?_)
  obtain ⟨hpn, hn, hs, h1, h2, h3⟩ := h
  have ea : atI (A 121) (I 120 1) (I 104 2) = A 121 p := by rw [h3, h2]; exact atI_in (by omega) hs
  have fin : ∀ d, up2 (up2 (up2 (up2 I 104 6 (A 121 p)) 104 5 d) 104 4 1) 104 2 (I 104 2 + 1) = tokC I (nI (p + 1)) (I 104 3) 1 d (A 121 p) := fun d => by
    have e := tc_self I
    rw [h2, nI_1]
    conv => lhs; rw [← e]
    rw [tc6, tc5, tc4, tc2]
  have sg := @sg_iff (A 121 p)
  refine r_5_readSign_0 F E hP hB (by rw [h3]; exact (nI_len 400 (by omega) (by omega)).mpr hs) (fun c => ?_) (fun c1 c2 => ?_) (fun c1 c2 => ?_)
  · rw [ea] at c ⊢
    exact ⟨rfl, by rw [fin, if_neg (fun z => by have := sg.mp z; grind)], rfl⟩
  · rw [ea] at c1 c2 ⊢
    exact ⟨rfl, by rw [fin, if_neg (fun z => by have := sg.mp z; grind)], rfl⟩
  · rw [ea] at c1 c2 ⊢
    exact ⟨rfl, by rw [fin, if_pos (sg.mpr ⟨by grind, by grind⟩)], rfl⟩

theorem r_5_read_0 {X : Ctx} (F : Fx X cX5_read RX5 1 5 0 0) {P O : Nat → Nat → Option Nat} (hP : laP P) {I A : Nat → Nat → Int32} {J : Nat → Nat → Int64} {pl : List Nat} (hB : inB pl)
    (e_1 : ((I 104 1) ≤ (I 104 2)) → WA X (mC P O I A J) pl 0 0 41 [(0, .ref 104)] [])
    (o_2 : (¬ ((I 104 1) ≤ (I 104 2))) → szO (I 120 1))
    (e_3 : (¬ ((I 104 1) ≤ (I 104 2))) → (bBl (atI (A 121) (I 120 1) (I 104 2)) = true) → WA X (mC P O (up2 I 104 2 ((I 104 2) + 1)) A J) pl 0 0 0 [(0, .ref 104)] [])
    (e_4 : (¬ ((I 104 1) ≤ (I 104 2))) → (¬ (bBl (atI (A 121) (I 120 1) (I 104 2)) = true)) → WA X (mC P O I A J) pl 0 0 41 [(0, .ref 104)] []) :
    WA X (mC P O I A J) pl 0 0 0 [(0, .ref 104)] [] := by
  refine a_aload_n F 0 dX5_read_0 rfl rfl ?_
  refine a_geti F fl_5_22 rfl (hB _ (by decide)) rfl dX5_read_1 ?_
  refine a_aload_n F 0 dX5_read_4 rfl rfl ?_
  refine a_geti F fl_5_19 rfl (hB _ (by decide)) rfl dX5_read_5 ?_
  refine a_icmp_ge (tgt := 41) F dX5_read_8 (by decide) (fun (c_1 : (I 104 1) ≤ (I 104 2)) => ?_) (fun (c_1 : ¬ ((I 104 1) ≤ (I 104 2))) => ?_)
  · exact e_1 c_1
  · refine a_aload_n F 0 dX5_read_11 rfl rfl ?_
    refine a_getr (b := 120) F fl_5_15 rfl (hB _ (by decide)) rfl ((hP 104 0 (by decide)).trans rfl) dX5_read_12 ?_
    refine a_aload_n F 0 dX5_read_15 rfl rfl ?_
    refine a_geti F fl_5_22 rfl (hB _ (by decide)) rfl dX5_read_16 ?_
    refine a_callV (b := 120) (As := [.int (I 104 2)]) (st := []) (ci := 1) F (c_1_atI (xl X) hP I A J hB 120 rfl (hB _ (by decide)) (hB _ (by decide)) (I 104 2) (o_2 c_1)) ml_5_31 im_yX1_at se_yX1_at (by decide) (by decide) rfl (hB _ (by decide)) rfl rfl dX5_read_19 (by decide) (Nat.le_refl 0) (Nat.le_refl 0) (hl_r (hB _ (by decide)) hl_nil) hs_nil ?_
    rintro _ _ _ ⟨rfl, rfl, rfl⟩ _
    show WA X (mC P O I A J) pl 0 0 22 [(0, .ref 104)] [.int (atI (A 121) (I 120 1) (I 104 2))]
    refine a_callS (As := [.int (atI (A 121) (I 120 1) (I 104 2))]) (st := []) F (c_5_isBlank (xl X) hP I A J hB (atI (A 121) (I 120 1) (I 104 2))) ml_5_36 sm_yX5_isBlank (by decide) rfl dX5_read_22 (by decide) (Nat.le_refl 0) (Nat.le_refl 0) (hl_r (hB _ (by decide)) hl_nil) hs_nil ?_
    rintro _ _ _ ⟨rfl, rfl, rfl⟩ _
    show WA X (mC P O I A J) pl 0 0 25 [(0, .ref 104)] [.int (if bBl (atI (A 121) (I 120 1) (I 104 2)) = true then 1 else 0)]
    refine a_ite (fun (c_2 : bBl (atI (A 121) (I 120 1) (I 104 2)) = true) => ?_) (fun (c_2 : ¬ (bBl (atI (A 121) (I 120 1) (I 104 2)) = true)) => ?_)
    · refine a_if_eq (tgt := 41) F dX5_read_25 (by decide) (fun (c_3 : (1 : Int32) = 0) => ?_) (fun (c_3 : ¬ ((1 : Int32) = 0)) => ?_)
      · exact absurd c_3 (by decide)
      · refine a_aload_n F 0 dX5_read_28 rfl rfl ?_
        refine a_dup F dX5_read_29 rfl ?_
        refine a_geti F fl_5_22 rfl (hB _ (by decide)) rfl dX5_read_30 ?_
        refine a_iconst (v := 1) F dX5_read_33 (by decide) ?_
        refine a_iadd F dX5_read_34 ?_
        refine a_puti F fl_5_22 rfl rfl rfl rfl (hB _ (by decide)) rfl dX5_read_35 ?_
        refine a_goto (tgt := 0) F dX5_read_38 (by decide) ?_
        exact e_3 c_1 c_2
    · refine a_if_eq (tgt := 41) F dX5_read_25 (by decide) (fun (c_4 : (0 : Int32) = 0) => ?_) (fun (c_4 : ¬ ((0 : Int32) = 0)) => ?_)
      · exact e_4 c_1 c_2
      · exact absurd c_4 (by decide)

theorem r_5_read_41 {X : Ctx} (F : Fx X cX5_read RX5 1 5 0 0) {Φ : Option Value → HS → List Nat → Prop} (E : Ex X none 0 0 Φ) {P O : Nat → Nat → Option Nat} (hP : laP P) {I A : Nat → Nat → Int32} {J : Nat → Nat → Int64} {pl : List Nat} (hB : inB pl)
    (o_1 : ((I 104 2) < (I 104 1)) → szO (I 120 1))
    (e_2 : ((I 104 2) < (I 104 1)) → (bDg (atI (A 121) (I 120 1) (I 104 2)) = true) → WA X (mC P O (up2 (up2 (up2 I 104 3 (I 104 2)) 104 4 0) 104 6 0) A J) pl 0 0 96 [(0, .ref 104)] [.ref 104])
    (o_3 : ((I 104 2) < (I 104 1)) → (¬ (bDg (atI (A 121) (I 120 1) (I 104 2)) = true)) → szO (I 120 1))
    (e_4 : ((I 104 2) < (I 104 1)) → (¬ (bDg (atI (A 121) (I 120 1) (I 104 2)) = true)) → (bLt (atI (A 121) (I 120 1) (I 104 2)) = true) → WA X (mC P O (up2 (up2 (up2 I 104 3 (I 104 2)) 104 4 0) 104 6 0) A J) pl 0 0 120 [(0, .ref 104)] [.ref 104])
    (e_5 : ((I 104 2) < (I 104 1)) → (¬ (bDg (atI (A 121) (I 120 1) (I 104 2)) = true)) → (¬ (bLt (atI (A 121) (I 120 1) (I 104 2)) = true)) → WA X (mC P O (up2 (up2 (up2 I 104 3 (I 104 2)) 104 4 0) 104 6 0) A J) pl 0 0 127 [(0, .ref 104)] [.ref 104])
    (e_6 : (¬ ((I 104 2) < (I 104 1))) → Φ none (mC P O (up2 (up2 (up2 (up2 I 104 3 (I 104 2)) 104 4 0) 104 6 0) 104 5 0) A J) pl) :
    WA X (mC P O I A J) pl 0 0 41 [(0, .ref 104)] [] := by
  refine a_aload_n F 0 dX5_read_41 rfl rfl ?_
  refine a_aload_n F 0 dX5_read_42 rfl rfl ?_
  refine a_geti F fl_5_22 rfl (hB _ (by decide)) rfl dX5_read_43 ?_
  refine a_puti F fl_5_40 rfl rfl rfl rfl (hB _ (by decide)) rfl dX5_read_46 ?_
  refine a_aload_n F 0 dX5_read_49 rfl rfl ?_
  refine a_iconst (v := 0) F dX5_read_50 (by decide) ?_
  refine a_puti F fl_5_43 rfl rfl rfl rfl (hB _ (by decide)) rfl dX5_read_51 ?_
  refine a_aload_n F 0 dX5_read_54 rfl rfl ?_
  refine a_iconst (v := 0) F dX5_read_55 (by decide) ?_
  refine a_puti F fl_5_46 rfl rfl rfl rfl (hB _ (by decide)) rfl dX5_read_56 ?_
  refine a_aload_n F 0 dX5_read_59 rfl rfl ?_
  refine a_geti F fl_5_22 rfl (hB _ (by decide)) rfl dX5_read_60 ?_
  refine a_aload_n F 0 dX5_read_63 rfl rfl ?_
  refine a_geti F fl_5_19 rfl (hB _ (by decide)) rfl dX5_read_64 ?_
  refine a_icmp_lt (tgt := 78) F dX5_read_67 (by decide) (fun (c_5 : (I 104 2) < (I 104 1)) => ?_) (fun (c_5 : ¬ ((I 104 2) < (I 104 1))) => ?_)
  · refine a_aload_n F 0 dX5_read_78 rfl rfl ?_
    refine a_getr (b := 120) F fl_5_15 rfl (hB _ (by decide)) rfl ((hP 104 0 (by decide)).trans rfl) dX5_read_79 ?_
    refine a_aload_n F 0 dX5_read_82 rfl rfl ?_
    refine a_geti F fl_5_22 rfl (hB _ (by decide)) rfl dX5_read_83 ?_
    refine a_callV (b := 120) (As := [.int (I 104 2)]) (st := []) (ci := 1) F (c_1_atI (xl X) hP (up2 (up2 (up2 I 104 3 (I 104 2)) 104 4 0) 104 6 0) A J hB 120 rfl (hB _ (by decide)) (hB _ (by decide)) (I 104 2) (o_1 c_5)) ml_5_31 im_yX1_at se_yX1_at (by decide) (by decide) rfl (hB _ (by decide)) rfl rfl dX5_read_86 (by decide) (Nat.le_refl 0) (Nat.le_refl 0) (hl_r (hB _ (by decide)) hl_nil) hs_nil ?_
    rintro _ _ _ ⟨rfl, rfl, rfl⟩ _
    show WA X (mC P O (up2 (up2 (up2 I 104 3 (I 104 2)) 104 4 0) 104 6 0) A J) pl 0 0 89 [(0, .ref 104)] [.int (atI (A 121) (I 120 1) (I 104 2))]
    refine a_callS (As := [.int (atI (A 121) (I 120 1) (I 104 2))]) (st := []) F (c_5_isDigit (xl X) hP (up2 (up2 (up2 I 104 3 (I 104 2)) 104 4 0) 104 6 0) A J hB (atI (A 121) (I 120 1) (I 104 2))) ml_5_52 sm_yX5_isDigit (by decide) rfl dX5_read_89 (by decide) (Nat.le_refl 0) (Nat.le_refl 0) (hl_r (hB _ (by decide)) hl_nil) hs_nil ?_
    rintro _ _ _ ⟨rfl, rfl, rfl⟩ _
    show WA X (mC P O (up2 (up2 (up2 I 104 3 (I 104 2)) 104 4 0) 104 6 0) A J) pl 0 0 92 [(0, .ref 104)] [.int (if bDg (atI (A 121) (I 120 1) (I 104 2)) = true then 1 else 0)]
    refine a_ite (fun (c_6 : bDg (atI (A 121) (I 120 1) (I 104 2)) = true) => ?_) (fun (c_6 : ¬ (bDg (atI (A 121) (I 120 1) (I 104 2)) = true)) => ?_)
    · refine a_if_eq (tgt := 102) F dX5_read_92 (by decide) (fun (c_7 : (1 : Int32) = 0) => ?_) (fun (c_7 : ¬ ((1 : Int32) = 0)) => ?_)
      · exact absurd c_7 (by decide)
      · refine a_aload_n F 0 dX5_read_95 rfl rfl ?_
        exact e_2 c_5 c_6
    · refine a_if_eq (tgt := 102) F dX5_read_92 (by decide) (fun (c_8 : (0 : Int32) = 0) => ?_) (fun (c_8 : ¬ ((0 : Int32) = 0)) => ?_)
      · refine a_aload_n F 0 dX5_read_102 rfl rfl ?_
        refine a_getr (b := 120) F fl_5_15 rfl (hB _ (by decide)) rfl ((hP 104 0 (by decide)).trans rfl) dX5_read_103 ?_
        refine a_aload_n F 0 dX5_read_106 rfl rfl ?_
        refine a_geti F fl_5_22 rfl (hB _ (by decide)) rfl dX5_read_107 ?_
        refine a_callV (b := 120) (As := [.int (I 104 2)]) (st := []) (ci := 1) F (c_1_atI (xl X) hP (up2 (up2 (up2 I 104 3 (I 104 2)) 104 4 0) 104 6 0) A J hB 120 rfl (hB _ (by decide)) (hB _ (by decide)) (I 104 2) (o_3 c_5 c_6)) ml_5_31 im_yX1_at se_yX1_at (by decide) (by decide) rfl (hB _ (by decide)) rfl rfl dX5_read_110 (by decide) (Nat.le_refl 0) (Nat.le_refl 0) (hl_r (hB _ (by decide)) hl_nil) hs_nil ?_
        rintro _ _ _ ⟨rfl, rfl, rfl⟩ _
        show WA X (mC P O (up2 (up2 (up2 I 104 3 (I 104 2)) 104 4 0) 104 6 0) A J) pl 0 0 113 [(0, .ref 104)] [.int (atI (A 121) (I 120 1) (I 104 2))]
        refine a_callS (As := [.int (atI (A 121) (I 120 1) (I 104 2))]) (st := []) F (c_5_isLetter (xl X) hP (up2 (up2 (up2 I 104 3 (I 104 2)) 104 4 0) 104 6 0) A J hB (atI (A 121) (I 120 1) (I 104 2))) ml_5_58 sm_yX5_isLetter (by decide) rfl dX5_read_113 (by decide) (Nat.le_refl 0) (Nat.le_refl 0) (hl_r (hB _ (by decide)) hl_nil) hs_nil ?_
        rintro _ _ _ ⟨rfl, rfl, rfl⟩ _
        show WA X (mC P O (up2 (up2 (up2 I 104 3 (I 104 2)) 104 4 0) 104 6 0) A J) pl 0 0 116 [(0, .ref 104)] [.int (if bLt (atI (A 121) (I 120 1) (I 104 2)) = true then 1 else 0)]
        refine a_ite (fun (c_9 : bLt (atI (A 121) (I 120 1) (I 104 2)) = true) => ?_) (fun (c_9 : ¬ (bLt (atI (A 121) (I 120 1) (I 104 2)) = true)) => ?_)
        · refine a_if_eq (tgt := 126) F dX5_read_116 (by decide) (fun (c_10 : (1 : Int32) = 0) => ?_) (fun (c_10 : ¬ ((1 : Int32) = 0)) => ?_)
          · exact absurd c_10 (by decide)
          · refine a_aload_n F 0 dX5_read_119 rfl rfl ?_
            exact e_4 c_5 c_6 c_9
        · refine a_if_eq (tgt := 126) F dX5_read_116 (by decide) (fun (c_11 : (0 : Int32) = 0) => ?_) (fun (c_11 : ¬ ((0 : Int32) = 0)) => ?_)
          · refine a_aload_n F 0 dX5_read_126 rfl rfl ?_
            exact e_5 c_5 c_6 c_9
          · exact absurd c_11 (by decide)
      · exact absurd c_8 (by decide)
  · refine a_aload_n F 0 dX5_read_70 rfl rfl ?_
    refine a_iconst (v := 0) F dX5_read_71 (by decide) ?_
    refine a_puti F fl_5_49 rfl rfl rfl rfl (hB _ (by decide)) rfl dX5_read_72 ?_
    refine a_goto (tgt := 130) F dX5_read_75 (by decide) ?_
    exact a_vret F E dX5_read_130 (Nat.le_refl 0) (Nat.le_refl 0) (e_6 c_5)

set_option maxRecDepth 10000 in
theorem c_5_read (l : Launch) {P O : Nat → Nat → Option Nat} (hP : laP P) (I A : Nat → Nat → Int32) (J : Nat → Nat → Int64) {pl : List Nat} (hB : inB pl) (n i sz : Nat) (h : rdP I n i sz) : Con l 5 yX5_read cX5_read 1 none [.ref 104] (mC P O I A J) pl 0 0 (PC none P O (tkI I (A 121) n (endT bBl (A 121) n i)) A J pl) := by
  refine Con.of (by decide) (Nat.le_of_ble_eq_true rfl) (fun X hX9 hn9 F E => ?_)
  obtain ⟨hin, hn, hs, h1, h2, h3⟩ := h
  have hb := endT_b (P := bBl) (T := A 121) (n := n) (n - i) i (Nat.le_refl _) hin
  generalize hp : endT bBl (A 121) n i = p at hb
  -- at the token
  have tok : ∀ I1, (∃ x2, I1 = up2 I 104 2 x2) → I1 104 2 = nI p → WA X (mC P O I1 A J) pl 0 0 41 [(0, .ref 104)] [] := by
    rintro I1 ⟨x2, rfl⟩ e2
    have ex : x2 = nI p := e2
    subst ex
    have lt : up2 I 104 2 (nI p) 104 2 < up2 I 104 2 (nI p) 104 1 ↔ p < n := by show nI p < I 104 1 ↔ _; rw [h1]; exact nI_ltI (by omega) (by omega)
    have ea : p < n → atI (A 121) (up2 I 104 2 (nI p) 120 1) (up2 I 104 2 (nI p) 104 2) = A 121 p := fun z => by
      show atI (A 121) (I 120 1) (nI p) = _
      rw [h3]; exact atI_in (by omega) hs
    have hsz : szO (up2 I 104 2 (nI p) 120 1) := by show I 120 1 ≤ 400; rw [h3]; exact (nI_len 400 (by omega) (by omega)).mpr hs
    have eI : up2 (up2 (up2 (up2 I 104 2 (nI p)) 104 3 (up2 I 104 2 (nI p) 104 2)) 104 4 0) 104 6 0 = tokC I (nI p) (nI p) 0 (I 104 5) 0 := by
      show up2 (up2 (up2 (up2 I 104 2 (nI p)) 104 3 (nI p)) 104 4 0) 104 6 0 = _
      conv => lhs; rw [← tc_self I]
      rw [tc2, tc3, tc4, tc6]
    have rd : rdP (tokC I (nI p) (nI p) 0 (I 104 5) 0) n p sz := ⟨hb.2, hn, hs, h1, rfl, h3⟩
    have tt : ∀ a b c d e a' b' c' d' e', tokC (tokC I a b c d e) a' b' c' d' e' = tokC I a' b' c' d' e' := fun a b c d e a' b' c' d' e' => by
      conv => lhs; unfold tokC
      show up2 (up2 (up2 (up2 (up2 (tokC I a b c d e) 104 2 a') 104 3 b') 104 4 c') 104 5 d') 104 6 e' = _
      rw [tc2, tc3, tc4, tc5, tc6]
    refine r_5_read_41 F E hP hB (fun _ => hsz) (fun c z => ?_) (fun _ _ => hsz) (fun c z1 z2 => ?_) (fun c z1 z2 => ?_) (fun c => ⟨rfl, ?_, rfl⟩)
    · have c := lt.mp c
      rw [ea c] at z
      rw [eI]
      refine a_callV (b := 104) (As := []) (st := []) (ci := 5) F (c_5_readNumber (xl X) hP (tokC I (nI p) (nI p) 0 (I 104 5) 0) A J hB n p sz rd rfl rfl) ml_5_55 im_yX5_readNumber se_yX5_readNumber (by decide) (by decide) rfl (hB _ (by decide)) rfl rfl dX5_read_96 (by decide) (Nat.le_refl 0) (Nat.le_refl 0) (hl_r (hB _ (by decide)) hl_nil) hs_nil ?_
      rintro _ _ _ ⟨rfl, rfl, rfl⟩ _
      refine a_goto (tgt := 130) F dX5_read_99 (by decide) ?_
      refine a_vret F E dX5_read_130 (Nat.le_refl 0) (Nat.le_refl 0) ⟨rfl, ?_, rfl⟩
      rw [tt, hp]
      have hnp : ¬ n ≤ p := by omega
      unfold tkI tkA tkZ tkK tkW
      rw [if_neg hnp, if_pos z, if_neg hnp, if_pos z, if_neg hnp, if_pos z, if_neg hnp, if_pos z]
      rfl
    · have c := lt.mp c
      rw [ea c] at z1 z2
      rw [eI]
      refine a_callV (b := 104) (As := []) (st := []) (ci := 5) F (c_5_readWord (xl X) hP (tokC I (nI p) (nI p) 0 (I 104 5) 0) A J hB n p sz rd rfl) ml_5_61 im_yX5_readWord se_yX5_readWord (by decide) (by decide) rfl (hB _ (by decide)) rfl rfl dX5_read_120 (by decide) (Nat.le_refl 0) (Nat.le_refl 0) (hl_r (hB _ (by decide)) hl_nil) hs_nil ?_
      rintro _ _ _ ⟨rfl, rfl, rfl⟩ _
      refine a_goto (tgt := 130) F dX5_read_123 (by decide) ?_
      refine a_vret F E dX5_read_130 (Nat.le_refl 0) (Nat.le_refl 0) ⟨rfl, ?_, rfl⟩
      rw [tt, hp]
      have hnp : ¬ n ≤ p := by omega
      unfold tkI tkA tkZ tkK tkW
      rw [if_neg hnp, if_neg z1, if_pos z2, if_neg hnp, if_neg z1, if_pos z2, if_neg hnp, if_neg z1, if_pos z2, if_neg hnp, if_neg z1, if_pos z2]
      rfl
    · have c := lt.mp c
      rw [ea c] at z1 z2
      rw [eI]
      refine a_callV (b := 104) (As := []) (st := []) (ci := 5) F (c_5_readSign (xl X) hP (tokC I (nI p) (nI p) 0 (I 104 5) 0) A J hB n p sz rd c) ml_5_64 im_yX5_readSign se_yX5_readSign (by decide) (by decide) rfl (hB _ (by decide)) rfl rfl dX5_read_127 (by decide) (Nat.le_refl 0) (Nat.le_refl 0) (hl_r (hB _ (by decide)) hl_nil) hs_nil ?_
      rintro _ _ _ ⟨rfl, rfl, rfl⟩ _
      refine a_vret F E dX5_read_130 (Nat.le_refl 0) (Nat.le_refl 0) ⟨rfl, ?_, rfl⟩
      rw [tt, hp]
      have hnp : ¬ n ≤ p := by omega
      unfold tkI tkA tkZ tkK tkW
      rw [if_neg hnp, if_neg z1, if_neg z2, if_neg hnp, if_neg z1, if_neg z2, if_neg hnp, if_neg z1, if_neg z2, if_neg hnp, if_neg z1, if_neg z2]
      rfl
    · have c : n ≤ p := Nat.le_of_not_lt (fun z => c (lt.mpr z))
      rw [eI, tc5, hp]
      unfold tkI tkA tkZ tkK tkW
      rw [if_pos c, if_pos c, if_pos c, if_pos c]
      rfl
  have lp : ∀ f j I1, j + f = n → (∃ x2, I1 = up2 I 104 2 x2) → I1 104 2 = nI j → endT bBl (A 121) n i = endT bBl (A 121) n j → WA X (mC P O I1 A J) pl 0 0 0 [(0, .ref 104)] [] := by
    intro f
    induction f with
    | zero =>
      rintro j I1 hj ⟨x2, rfl⟩ e2 he
      obtain rfl : j = n := by omega
      have h : up2 I 104 2 x2 104 1 ≤ up2 I 104 2 x2 104 2 := by rw [e2]; show I 104 1 ≤ nI j; rw [h1]; exact Int32.le_refl _
      refine r_5_read_0 F hP hB (fun _ => tok _ ⟨x2, rfl⟩ (by rw [e2, ← hp, he, endT_n (Nat.le_refl _)])) (fun z => absurd h z) (fun z => absurd h z) (fun z => absurd h z)
    | succ f ih =>
      rintro j I1 hj ⟨x2, rfl⟩ e2 he
      have h : ¬ up2 I 104 2 x2 104 1 ≤ up2 I 104 2 x2 104 2 := by
        rw [e2]; show ¬ I 104 1 ≤ nI j
        rw [h1]; exact fun z => by have := (nI_leI (by omega) (by omega)).mp z; omega
      have ea : atI (A 121) (up2 I 104 2 x2 120 1) (up2 I 104 2 x2 104 2) = A 121 j := by
        rw [e2]; show atI (A 121) (I 120 1) (nI j) = _
        rw [h3]; exact atI_in (by omega) hs
      have hsz : szO (up2 I 104 2 x2 120 1) := by show I 120 1 ≤ 400; rw [h3]; exact (nI_len 400 (by omega) (by omega)).mpr hs
      refine r_5_read_0 F hP hB (fun z => absurd z h) (fun _ => hsz) (fun _ z => ?_) (fun _ z => ?_)
      · rw [ea] at z
        rw [e2, nI_1, up2_up2]
        exact ih (j + 1) _ (by omega) ⟨_, rfl⟩ rfl (by rw [he, endT_t (by omega) z])
      · rw [ea] at z
        exact tok _ ⟨x2, rfl⟩ (by rw [e2, ← hp, he, endT_f (by omega) z])
  exact lp (n - i) i I (by omega) ⟨I 104 2, (up2_id I 104 2).symm⟩ h2 rfl
