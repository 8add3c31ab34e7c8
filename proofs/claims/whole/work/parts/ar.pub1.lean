/-! public methods, the small ones -/
theorem tbS.cg {P : Nat → Nat → Option Nat} {I A I' A' : Nat → Nat → Int32} {J J' : Nat → Nat → Int64} {pl : List Nat} {m : Nat} {τ : TB} (h : tbS P I A J pl m τ) (h1 : ∀ k, 5 ≤ k → k ≤ 7 → I' 110 k = I 110 k) (h2 : A' (301 + 2 * τ.2.2.2.2) = A (301 + 2 * τ.2.2.2.2)) (h3 : J' (300 + 2 * τ.2.2.2.2) = J (300 + 2 * τ.2.2.2.2)) : tbS P I' A' J' pl m τ := by
  unfold tbS at h ⊢
  rw [h1 5 (by omega) (by omega), h1 6 (by omega) (by omega), h1 7 (by omega) (by omega), h2, h3]
  exact h
theorem r_11_setUpGame_0 {X : Ctx} (F : Fx X cX11_setUpGame RX11 1 6 0 0) {P O : Nat → Nat → Option Nat} (hP : laP P) {I A : Nat → Nat → Int32} {J : Nat → Nat → Int64} {pl : List Nat} (hB : inB pl)
    (o_1 : (I 114 4) = 0 ∨ (I 114 4) = 1)
    (e_2 : WA X (mC P O (ogI I) A J) pl 0 0 11 [(0, .ref 100)] [.ref 130]) :
    WA X (mC P O I A J) pl 0 0 0 [(0, .ref 100)] [] := by
  refine a_aload_n F 0 dX11_setUpGame_0 rfl rfl ?_
  refine a_getr (b := 114) F fl_11_63 rfl (hB _ (by decide)) rfl ((hP 100 7 (by decide)).trans rfl) dX11_setUpGame_1 ?_
  refine a_callV (b := 114) (As := []) (st := []) (ci := 2) F (c_2_openGame (xl X) hP I A J hB (o_1)) ml_11_295 im_yX2_openGame se_yX2_openGame (by decide) (by decide) rfl (hB _ (by decide)) rfl rfl dX11_setUpGame_4 (by decide) (Nat.le_refl 0) (Nat.le_refl 0) (hl_r (hB _ (by decide)) hl_nil) hs_nil ?_
  rintro _ _ _ ⟨rfl, rfl, rfl⟩ _
  show WA X (mC P O (ogI I) A J) pl 0 0 7 [(0, .ref 100)] []
  refine a_aload_n F 0 dX11_setUpGame_7 rfl rfl ?_
  refine a_getr (b := 130) F fl_11_22 rfl (hB _ (by decide)) rfl ((hP 100 2 (by decide)).trans rfl) dX11_setUpGame_8 ?_
  exact e_2

theorem r_11_setUpGame_14b {X : Ctx} (F : Fx X cX11_setUpGame RX11 1 6 0 0) {P O : Nat → Nat → Option Nat} (hP : laP P) {I A : Nat → Nat → Int32} {J : Nat → Nat → Int64} {pl : List Nat} (hB : inB pl)
    (e_1 : WA X (mC P O I A J) pl 0 0 18 [(0, .ref 100)] [.ref 110]) :
    WA X (mC P O I A J) pl 0 0 14 [(0, .ref 100)] [] := by
  refine a_aload_n F 0 dX11_setUpGame_14 rfl rfl ?_
  refine a_getr (b := 110) F fl_11_56 rfl (hB _ (by decide)) rfl ((hP 100 6 (by decide)).trans rfl) dX11_setUpGame_15 ?_
  exact e_1

set_option maxRecDepth 10000 in
theorem c_11_setUpGame (l : Launch) {P O : Nat → Nat → Option Nat} (hP : laP P) (I A : Nat → Nat → Int32) (J : Nat → Nat → Int64) {pl : List Nat} (hB : inB pl) (h4 : I 114 4 = 0 ∨ I 114 4 = 1) {m : Nat} {τ : TB} (ht : tbS P I A J pl m τ) : ConS l 6 yX11_setUpGame cX11_setUpGame 1 none [.ref 100] (mC P O I A J) pl 0 0 (fun r σ' pl' => r = none ∧ pl = pl' ∧ ∃ R, σ' = mC P O (up2 (up2 (ogI I) 130 1 0) 110 7 0) (up1 A 131 R) J ∧ ∀ k, k < 52 → R k = startB k) := by
  refine ConS.of (by decide) (Nat.le_of_ble_eq_true rfl) (fun X hX9 hn9 F E S => ?_)
  refine r_11_setUpGame_0 F hP hB h4 ?_
  refine a_callVS (b := 130) (As := []) (st := []) (ci := 0) F S (c_0_setUp (xl X) hP (ogI I) A J hB 130 rfl (hB _ (by decide)) (hB _ (by decide))) ml_11_81 im_yX0_setUp se_yX0_setUp (by decide) (by decide) rfl (hB _ (by decide)) rfl rfl dX11_setUpGame_11 (by decide) (Nat.le_refl 0) (Nat.le_refl 0) (hl_r (hB _ (by decide)) hl_nil) hs_nil ?_
  rintro _ _ _ ⟨rfl, rfl, R, rfl, hR⟩ _
  refine r_11_setUpGame_14b F hP hB ?_
  have ht' : tbS P (up2 (ogI I) 130 1 0) (up1 A 131 R) J pl m τ := ht.cg (fun k h1 h2 => by rw [up2_p (by decide)]; rfl) (up1_p (by omega)) rfl
  refine a_callV (b := 110) (As := []) (st := []) (ci := 6) F (c_6_forget (xl X) hP (up2 (ogI I) 130 1 0) (up1 A 131 R) J hB m τ ht') ml_11_117 im_yX6_forget se_yX6_forget (by decide) (by decide) rfl (hB _ (by decide)) rfl rfl dX11_setUpGame_18 (by decide) (Nat.le_refl 0) (Nat.le_refl 0) (hl_r (hB _ (by decide)) hl_nil) hs_nil ?_
  rintro _ _ _ ⟨rfl, rfl, rfl⟩ _
  exact a_vret F E dX11_setUpGame_21 (Nat.le_refl 0) (Nat.le_refl 0) ⟨rfl, rfl, R, rfl, hR⟩

theorem r_11_fault_0 {X : Ctx} {mc ms k1 k2 : Nat} (F : Fx X cX11_fault RX11 1 18 mc ms) (S : SXX X) {Ψx : String → HS → List Nat → Prop} (T : Tx X mc ms Ψx) (hk1 : k1 + 6 ≤ mc) (hk2 : k2 + 36 ≤ ms) {Φ : Option Value → HS → List Nat → Prop} (E : Ex X (some .int) mc ms Φ) {P O : Nat → Nat → Option Nat} (hP : laP P) {I A : Nat → Nat → Int32} {J : Nat → Nat → Int64} {pl : List Nat} (hB : inB pl)
    (e_1 : Φ (some (.int (I 104 8))) (mC P O I A J) pl) :
    WA X (mC P O I A J) pl k1 k2 0 [(0, .ref 100)] [] := by
  refine a_aload_n F 0 dX11_fault_0 rfl rfl ?_
  refine a_getr (b := 104) F fl_11_38 rfl (hB _ (by decide)) rfl ((hP 100 4 (by decide)).trans rfl) dX11_fault_1 ?_
  refine a_geti F fl_11_123 rfl (hB _ (by decide)) rfl dX11_fault_4 ?_
  exact a_iret F E dX11_fault_7 (by omega) (by omega) (e_1)

set_option maxRecDepth 10000 in
theorem c_11_fault (l : Launch) (hst : l.stackTraces = false) {P O : Nat → Nat → Option Nat} (hP : laP P) (I A : Nat → Nat → Int32) (J : Nat → Nat → Int64) {pl : List Nat} (hB : inB pl) : ConX l 18 yX11_fault cX11_fault 1 (some .int) [.ref 100] (mC P O I A J) pl 6 36 (fun r σ' pl' => r = some (.int (I 104 8)) ∧ σ' = mC P O I A J ∧ pl = pl') (fun _ _ _ => False) := by
  refine ConX.of hst (by decide) (Nat.le_of_ble_eq_true rfl) (fun X hX9 hn9 F E S T => ?_)
  refine r_11_fault_0 F S T (by decide) (by decide) E hP hB ?_ <;> (clear F E S T hn9 hX9; (try clear X); exact ⟨rfl, rfl, rfl⟩)

theorem men_in {a b : Int32} (h : (0 ≤ a ∧ a ≤ 1) ∧ (0 ≤ b ∧ b ≤ 25)) : vp_in (a * 26 + b) 52 := in_i (N := 52) rfl ⟨by grind, by grind⟩
theorem r_11_men_0 {X : Ctx} {mc ms k1 k2 : Nat} (F : Fx X cX11_men RX11 3 18 mc ms) (S : SXX X) {Ψx : String → HS → List Nat → Prop} (T : Tx X mc ms Ψx) (hk1 : k1 + 6 ≤ mc) (hk2 : k2 + 36 ≤ ms) {Φ : Option Value → HS → List Nat → Prop} (E : Ex X (some .int) mc ms Φ) {P O : Nat → Nat → Option Nat} (hP : laP P) {I A : Nat → Nat → Int32} {J : Nat → Nat → Int64} {pl : List Nat} (hB : inB pl) {x1 x2 : Int32}
    (e_1 : ¬ ((0 ≤ x1 ∧ x1 ≤ 1) ∧ (0 ≤ x2 ∧ x2 ≤ 25)) → Ψx "java/lang/IndexOutOfBoundsException" (mC P O I A J) pl)
    (o_2 : ((0 ≤ x1 ∧ x1 ≤ 1) ∧ (0 ≤ x2 ∧ x2 ≤ 25)) → vp_in (x1 * 26 + x2) 52)
    (e_3 : ((0 ≤ x1 ∧ x1 ≤ 1) ∧ (0 ≤ x2 ∧ x2 ≤ 25)) → Φ (some (.int ((A 131) (x1 * 26 + x2).toNatClampNeg))) (mC P O I A J) pl) :
    WA X (mC P O I A J) pl k1 k2 0 [(0, .ref 100), (1, .int x1), (2, .int x2)] [] := by
  refine a_iload_n F 1 dX11_men_0 rfl rfl ?_
  refine a_iload_n F 2 dX11_men_1 rfl rfl ?_
  refine a_callSX (As := [.int x1, .int x2]) (st := []) F S T (c_11_checkPlace (xl X) T.1 hP I A J hB x1 x2) ml_11_126 sm_yX11_checkPlace (by decide) rfl dX11_men_2 (by decide) (by omega) (by omega) (hl_r (hB _ (by decide)) (hl_i (hl_i hl_nil))) hs_nil (by rintro _ _ _ ⟨rfl, rfl, rfl, c⟩ _; exact e_1 c) ?_
  rintro _ _ _ ⟨rfl, rfl, rfl, c_1⟩ _
  show WA X (mC P O I A J) pl (k1 + 1) (k2 + 6) 5 [(0, .ref 100), (1, .int x1), (2, .int x2)] []
  refine a_aload_n F 0 dX11_men_5 rfl rfl ?_
  refine a_getr (b := 130) F fl_11_22 rfl (hB _ (by decide)) rfl ((hP 100 2 (by decide)).trans rfl) dX11_men_6 ?_
  refine a_iload_n F 1 dX11_men_9 rfl rfl ?_
  refine a_iload_n F 2 dX11_men_10 rfl rfl ?_
  refine a_callV (b := 130) (As := [.int x1, .int x2]) (st := []) (ci := 0) F (c_0_count (xl X) hP I A J hB 130 rfl (hB _ (by decide)) (hB _ (by decide)) x1 x2 (o_2 c_1)) ml_11_130 im_yX0_count se_yX0_count (by decide) (by decide) rfl (hB _ (by decide)) rfl rfl dX11_men_11 (by decide) (by omega) (by omega) (hl_r (hB _ (by decide)) (hl_i (hl_i hl_nil))) hs_nil ?_
  rintro _ _ _ ⟨rfl, rfl, rfl⟩ _
  show WA X (mC P O I A J) pl (k1 + 1) (k2 + 6) 14 [(0, .ref 100), (1, .int x1), (2, .int x2)] [.int ((A 131) (x1 * 26 + x2).toNatClampNeg)]
  exact a_iret F E dX11_men_14 (by omega) (by omega) (e_3 c_1)

set_option maxRecDepth 10000 in
theorem c_11_men (l : Launch) (hst : l.stackTraces = false) {P O : Nat → Nat → Option Nat} (hP : laP P) (I A : Nat → Nat → Int32) (J : Nat → Nat → Int64) {pl : List Nat} (hB : inB pl) (a b : Int32) : ConX l 18 yX11_men cX11_men 3 (some .int) [.ref 100, .int a, .int b] (mC P O I A J) pl 6 36 (fun r σ' pl' => ((0 ≤ a ∧ a ≤ 1) ∧ (0 ≤ b ∧ b ≤ 25)) ∧ r = some (.int (A 131 (a * 26 + b).toNatClampNeg)) ∧ σ' = mC P O I A J ∧ pl = pl') (fun E σ' pl' => E = "java/lang/IndexOutOfBoundsException" ∧ σ' = mC P O I A J ∧ pl = pl' ∧ ¬ ((0 ≤ a ∧ a ≤ 1) ∧ (0 ≤ b ∧ b ≤ 25))) := by
  refine ConX.of hst (by decide) (Nat.le_of_ble_eq_true rfl) (fun X hX9 hn9 F E S T => ?_)
  refine r_11_men_0 F S T (by decide) (by decide) E hP hB ?_ ?_ ?_ <;> (clear F E S T hn9 hX9; (try clear X); first | (intro h; exact ⟨h, rfl, rfl, rfl⟩) | (intro h; exact ⟨rfl, rfl, rfl, h⟩) | (intro h; exact men_in h))

theorem r_11_match_0 {X : Ctx} {mc ms k1 k2 : Nat} (F : Fx X cX11_match RX11 2 18 mc ms) (S : SXX X) {Ψx : String → HS → List Nat → Prop} (T : Tx X mc ms Ψx) (hk1 : k1 + 6 ≤ mc) (hk2 : k2 + 36 ≤ ms) {Φ : Option Value → HS → List Nat → Prop} (E : Ex X (some .int) mc ms Φ) {P O : Nat → Nat → Option Nat} (hP : laP P) {I A : Nat → Nat → Int32} {J : Nat → Nat → Int64} {pl : List Nat} (hB : inB pl) {x1 : Int32}
    (e_1 : (x1 < 0) → Ψx "java/lang/IllegalArgumentException" (mC P O I A J) pl)
    (e_2 : (¬ (x1 < 0)) → (x1 ≤ 11) → Φ (some (.int (tellC I A x1))) (mC P O I A J) pl)
    (e_3 : (¬ (x1 < 0)) → (¬ (x1 ≤ 11)) → Ψx "java/lang/IllegalArgumentException" (mC P O I A J) pl) :
    WA X (mC P O I A J) pl k1 k2 0 [(0, .ref 100), (1, .int x1)] [] := by
  refine a_iload_n F 1 dX11_match_0 rfl rfl ?_
  refine a_if_lt (tgt := 10) F dX11_match_1 (by decide) (fun (c_1 : x1 < 0) => ?_) (fun (c_1 : ¬ (x1 < 0)) => ?_)
  · exact a_throwS F S T (TW.m153 (List.mem_of_getElem? (i := 3) rfl)) (by decide) dX11_match_10 dX11_match_13 dX11_match_14 dX11_match_16 dX11_match_19 (by omega) (by omega) (by decide) (e_1 c_1)
  · refine a_iload_n F 1 dX11_match_4 rfl rfl ?_
    refine a_bipush (v := 11) F dX11_match_5 (by decide) ?_
    refine a_icmp_le (tgt := 20) F dX11_match_7 (by decide) (fun (c_2 : x1 ≤ 11) => ?_) (fun (c_2 : ¬ (x1 ≤ 11)) => ?_)
    · refine a_aload_n F 0 dX11_match_20 rfl rfl ?_
      refine a_getr (b := 114) F fl_11_63 rfl (hB _ (by decide)) rfl ((hP 100 7 (by decide)).trans rfl) dX11_match_21 ?_
      refine a_iload_n F 1 dX11_match_24 rfl rfl ?_
      refine a_callV (b := 114) (As := [.int x1]) (st := []) (ci := 2) F (c_2_tell (xl X) hP I A J hB x1) ml_11_236 im_yX2_tell se_yX2_tell (by decide) (by decide) rfl (hB _ (by decide)) rfl rfl dX11_match_25 (by decide) (by omega) (by omega) (hl_r (hB _ (by decide)) (hl_i hl_nil)) hs_nil ?_
      rintro _ _ _ ⟨rfl, rfl, rfl⟩ _
      show WA X (mC P O I A J) pl k1 k2 28 [(0, .ref 100), (1, .int x1)] [.int (tellC I A x1)]
      exact a_iret F E dX11_match_28 (by omega) (by omega) (e_2 c_1 c_2)
    · exact a_throwS F S T (TW.m153 (List.mem_of_getElem? (i := 3) rfl)) (by decide) dX11_match_10 dX11_match_13 dX11_match_14 dX11_match_16 dX11_match_19 (by omega) (by omega) (by decide) (e_3 c_1 c_2)

set_option maxRecDepth 10000 in
theorem c_11_match (l : Launch) (hst : l.stackTraces = false) {P O : Nat → Nat → Option Nat} (hP : laP P) (I A : Nat → Nat → Int32) (J : Nat → Nat → Int64) {pl : List Nat} (hB : inB pl) (w : Int32) : ConX l 18 yX11_match cX11_match 2 (some .int) [.ref 100, .int w] (mC P O I A J) pl 6 36 (fun r σ' pl' => (0 ≤ w ∧ w ≤ 11) ∧ r = some (.int (tellC I A w)) ∧ σ' = mC P O I A J ∧ pl = pl') (fun E σ' pl' => E = "java/lang/IllegalArgumentException" ∧ σ' = mC P O I A J ∧ pl = pl' ∧ ¬ (0 ≤ w ∧ w ≤ 11)) := by
  refine ConX.of hst (by decide) (Nat.le_of_ble_eq_true rfl) (fun X hX9 hn9 F E S T => ?_)
  refine r_11_match_0 F S T (by decide) (by decide) E hP hB ?_ ?_ ?_ <;> (clear F E S T hn9 hX9; (try clear X); first | (intros; exact ⟨by grind, rfl, rfl, rfl⟩) | (intros; exact ⟨rfl, rfl, rfl, by grind⟩))

theorem r_11_octet_0 {X : Ctx} {mc ms k1 k2 : Nat} (F : Fx X cX11_octet RX11 2 18 mc ms) (S : SXX X) {Ψx : String → HS → List Nat → Prop} (T : Tx X mc ms Ψx) (hk1 : k1 + 6 ≤ mc) (hk2 : k2 + 36 ≤ ms) {Φ : Option Value → HS → List Nat → Prop} (E : Ex X (some .int) mc ms Φ) {P O : Nat → Nat → Option Nat} (hP : laP P) {I A : Nat → Nat → Int32} {J : Nat → Nat → Int64} {pl : List Nat} (hB : inB pl) {x1 : Int32}
    (o_1 : szO (I 122 1))
    (e_2 : Φ (some (.int (atI (A 123) (I 122 1) x1))) (mC P O I A J) pl) :
    WA X (mC P O I A J) pl k1 k2 0 [(0, .ref 100), (1, .int x1)] [] := by
  refine a_aload_n F 0 dX11_octet_0 rfl rfl ?_
  refine a_getr (b := 122) F fl_11_16 rfl (hB _ (by decide)) rfl ((hP 100 1 (by decide)).trans rfl) dX11_octet_1 ?_
  refine a_iload_n F 1 dX11_octet_4 rfl rfl ?_
  refine a_callV (b := 122) (As := [.int x1]) (st := []) (ci := 1) F (c_1_atI (xl X) hP I A J hB 122 rfl (hB _ (by decide)) (hB _ (by decide)) x1 (o_1)) ml_11_292 im_yX1_at se_yX1_at (by decide) (by decide) rfl (hB _ (by decide)) rfl rfl dX11_octet_5 (by decide) (by omega) (by omega) (hl_r (hB _ (by decide)) (hl_i hl_nil)) hs_nil ?_
  rintro _ _ _ ⟨rfl, rfl, rfl⟩ _
  show WA X (mC P O I A J) pl k1 k2 8 [(0, .ref 100), (1, .int x1)] [.int (atI (A 123) (I 122 1) x1)]
  exact a_iret F E dX11_octet_8 (by omega) (by omega) (e_2)

set_option maxRecDepth 10000 in
theorem c_11_octet (l : Launch) (hst : l.stackTraces = false) {P O : Nat → Nat → Option Nat} (hP : laP P) (I A : Nat → Nat → Int32) (J : Nat → Nat → Int64) {pl : List Nat} (hB : inB pl) (k : Int32) (hs : szO (I 122 1)) : ConX l 18 yX11_octet cX11_octet 2 (some .int) [.ref 100, .int k] (mC P O I A J) pl 6 36 (fun r σ' pl' => r = some (.int (atI (A 123) (I 122 1) k)) ∧ σ' = mC P O I A J ∧ pl = pl') (fun _ _ _ => False) := by
  refine ConX.of hst (by decide) (Nat.le_of_ble_eq_true rfl) (fun X hX9 hn9 F E S T => ?_)
  refine r_11_octet_0 F S T (by decide) (by decide) E hP hB ?_ ?_ <;> (clear F E S T hn9 hX9; (try clear X); first | exact hs | exact ⟨rfl, rfl, rfl⟩)

theorem r_11_offer_0 {X : Ctx} {mc ms k1 k2 : Nat} (F : Fx X cX11_offer RX11 1 18 mc ms) (S : SXX X) {Ψx : String → HS → List Nat → Prop} (T : Tx X mc ms Ψx) (hk1 : k1 + 6 ≤ mc) (hk2 : k2 + 36 ≤ ms) {Φ : Option Value → HS → List Nat → Prop} (E : Ex X (some .int) mc ms Φ) {P O : Nat → Nat → Option Nat} (hP : laP P) {I A : Nat → Nat → Int32} {J : Nat → Nat → Int64} {pl : List Nat} (hB : inB pl)
    (e_1 : (dblC I (I 130 1)) → Φ (some (.int (2 * (I 114 13)))) (mC P O (up2 I 114 12 4) A J) pl)
    (e_2 : (¬ (dblC I (I 130 1))) → Ψx "java/lang/IllegalStateException" (mC P O I A J) pl) :
    WA X (mC P O I A J) pl k1 k2 0 [(0, .ref 100)] [] := by
  refine a_aload_n F 0 dX11_offer_0 rfl rfl ?_
  refine a_getr (b := 114) F fl_11_63 rfl (hB _ (by decide)) rfl ((hP 100 7 (by decide)).trans rfl) dX11_offer_1 ?_
  refine a_aload_n F 0 dX11_offer_4 rfl rfl ?_
  refine a_getr (b := 130) F fl_11_22 rfl (hB _ (by decide)) rfl ((hP 100 2 (by decide)).trans rfl) dX11_offer_5 ?_
  refine a_geti F fl_11_134 rfl (hB _ (by decide)) rfl dX11_offer_8 ?_
  refine a_callV (b := 114) (As := [.int (I 130 1)]) (st := []) (ci := 2) F (c_2_mayDouble (xl X) hP I A J hB (I 130 1)) ml_11_218 im_yX2_mayDouble se_yX2_mayDouble (by decide) (by decide) rfl (hB _ (by decide)) rfl rfl dX11_offer_11 (by decide) (by omega) (by omega) (hl_r (hB _ (by decide)) hl_nil) hs_nil ?_
  rintro _ _ _ ⟨rfl, rfl, rfl⟩ _
  show WA X (mC P O I A J) pl k1 k2 14 [(0, .ref 100)] [.int (@ite Int32 (dblC I (I 130 1)) (Classical.propDecidable _) 1 0)]
  refine a_ite (fun (c_1 : dblC I (I 130 1)) => ?_) (fun (c_1 : ¬ (dblC I (I 130 1))) => ?_)
  · refine a_if_ne (tgt := 27) F dX11_offer_14 (by decide) (fun (c_2 : ¬ (1 : Int32) = 0) => ?_) (fun (c_2 : (1 : Int32) = 0) => ?_)
    · refine a_aload_n F 0 dX11_offer_27 rfl rfl ?_
      refine a_getr (b := 114) F fl_11_63 rfl (hB _ (by decide)) rfl ((hP 100 7 (by decide)).trans rfl) dX11_offer_28 ?_
      refine a_iconst (v := 4) F dX11_offer_31 (by decide) ?_
      refine a_puti F fl_11_206 rfl rfl rfl rfl (hB _ (by decide)) rfl dX11_offer_32 ?_
      refine a_iconst (v := 2) F dX11_offer_35 (by decide) ?_
      refine a_aload_n F 0 dX11_offer_36 rfl rfl ?_
      refine a_getr (b := 114) F fl_11_63 rfl (hB _ (by decide)) rfl ((hP 100 7 (by decide)).trans rfl) dX11_offer_37 ?_
      refine a_geti F fl_11_223 rfl (hB _ (by decide)) rfl dX11_offer_40 ?_
      refine a_imul F dX11_offer_43 ?_
      exact a_iret F E dX11_offer_44 (by omega) (by omega) (e_1 c_1)
    · exact absurd c_2 (by decide)
  · refine a_if_ne (tgt := 27) F dX11_offer_14 (by decide) (fun (c_3 : ¬ (0 : Int32) = 0) => ?_) (fun (c_3 : (0 : Int32) = 0) => ?_)
    · exact absurd c_3 (by decide)
    · exact a_throwS F S T (TW.m103 (List.mem_of_getElem? (i := 9) rfl)) (by decide) dX11_offer_17 dX11_offer_20 dX11_offer_21 dX11_offer_23 dX11_offer_26 (by omega) (by omega) (by decide) (e_2 c_1)

set_option maxRecDepth 10000 in
theorem c_11_offer (l : Launch) (hst : l.stackTraces = false) {P O : Nat → Nat → Option Nat} (hP : laP P) (I A : Nat → Nat → Int32) (J : Nat → Nat → Int64) {pl : List Nat} (hB : inB pl) : ConX l 18 yX11_offer cX11_offer 1 (some .int) [.ref 100] (mC P O I A J) pl 6 36 (fun r σ' pl' => dblC I (I 130 1) ∧ r = some (.int (2 * I 114 13)) ∧ σ' = mC P O (up2 I 114 12 4) A J ∧ pl = pl') (fun E σ' pl' => E = "java/lang/IllegalStateException" ∧ σ' = mC P O I A J ∧ pl = pl' ∧ ¬ dblC I (I 130 1)) := by
  refine ConX.of hst (by decide) (Nat.le_of_ble_eq_true rfl) (fun X hX9 hn9 F E S T => ?_)
  refine r_11_offer_0 F S T (by decide) (by decide) E hP hB ?_ ?_ <;> (clear F E S T hn9 hX9; (try clear X); first | (intro h; exact ⟨h, rfl, rfl, rfl⟩) | (intro h; exact ⟨rfl, rfl, rfl, h⟩))

theorem r_11_answer_0 {X : Ctx} {mc ms k1 k2 : Nat} (F : Fx X cX11_answer RX11 2 18 mc ms) (S : SXX X) {Ψx : String → HS → List Nat → Prop} (T : Tx X mc ms Ψx) (hk1 : k1 + 6 ≤ mc) (hk2 : k2 + 36 ≤ ms) {Φ : Option Value → HS → List Nat → Prop} (E : Ex X (some .int) mc ms Φ) {P O : Nat → Nat → Option Nat} (hP : laP P) {I A : Nat → Nat → Int32} {J : Nat → Nat → Int64} {pl : List Nat} (hB : inB pl) {x1 : Int32}
    (o_1 : ((I 114 12) = 4) → (x1 = 0) → vp_in (I 130 1) 2)
    (e_2 : ((I 114 12) = 4) → (x1 = 0) → Φ (some (.int ((eCI I (I 130 1) (I 114 13) ((A 115) (I 130 1).toNatClampNeg + (I 114 13))) 114 12))) (mC P O (eCI I (I 130 1) (I 114 13) ((A 115) (I 130 1).toNatClampNeg + (I 114 13))) (eCA A (I 130 1) (I 114 13)) J) pl)
    (e_3 : ((I 114 12) = 4) → (¬ (x1 = 0)) → Φ (some (.int ((up2 (up2 (up2 I 114 13 (2 * (I 114 13))) 114 2 (1 - (I 130 1))) 114 12 2) 114 12))) (mC P O (up2 (up2 (up2 I 114 13 (2 * (I 114 13))) 114 2 (1 - (I 130 1))) 114 12 2) A J) pl)
    (e_4 : (¬ ((I 114 12) = 4)) → Ψx "java/lang/IllegalStateException" (mC P O I A J) pl) :
    WA X (mC P O I A J) pl k1 k2 0 [(0, .ref 100), (1, .int x1)] [] := by
  refine a_aload_n F 0 dX11_answer_0 rfl rfl ?_
  refine a_getr (b := 114) F fl_11_63 rfl (hB _ (by decide)) rfl ((hP 100 7 (by decide)).trans rfl) dX11_answer_1 ?_
  refine a_geti F fl_11_206 rfl (hB _ (by decide)) rfl dX11_answer_4 ?_
  refine a_iconst (v := 4) F dX11_answer_7 (by decide) ?_
  refine a_icmp_eq (tgt := 21) F dX11_answer_8 (by decide) (fun (c_1 : (I 114 12) = 4) => ?_) (fun (c_1 : ¬ ((I 114 12) = 4)) => ?_)
  · refine a_iload_n F 1 dX11_answer_21 rfl rfl ?_
    refine a_if_eq (tgt := 42) F dX11_answer_22 (by decide) (fun (c_2 : x1 = 0) => ?_) (fun (c_2 : ¬ (x1 = 0)) => ?_)
    · refine a_aload_n F 0 dX11_answer_42 rfl rfl ?_
      refine a_getr (b := 114) F fl_11_63 rfl (hB _ (by decide)) rfl ((hP 100 7 (by decide)).trans rfl) dX11_answer_43 ?_
      refine a_aload_n F 0 dX11_answer_46 rfl rfl ?_
      refine a_getr (b := 130) F fl_11_22 rfl (hB _ (by decide)) rfl ((hP 100 2 (by decide)).trans rfl) dX11_answer_47 ?_
      refine a_geti F fl_11_134 rfl (hB _ (by decide)) rfl dX11_answer_50 ?_
      refine a_aload_n F 0 dX11_answer_53 rfl rfl ?_
      refine a_getr (b := 114) F fl_11_63 rfl (hB _ (by decide)) rfl ((hP 100 7 (by decide)).trans rfl) dX11_answer_54 ?_
      refine a_geti F fl_11_223 rfl (hB _ (by decide)) rfl dX11_answer_57 ?_
      refine a_callV (b := 114) (As := [.int (I 130 1), .int (I 114 13)]) (st := []) (ci := 2) F (c_2_end (xl X) hP I A J hB (I 130 1) (I 114 13) (o_1 c_1 c_2)) ml_11_231 im_yX2_end se_yX2_end (by decide) (by decide) rfl (hB _ (by decide)) rfl rfl dX11_answer_60 (by decide) (by omega) (by omega) (hl_r (hB _ (by decide)) (hl_i hl_nil)) hs_nil ?_
      rintro _ _ _ ⟨rfl, rfl, rfl⟩ _
      show WA X (mC P O (eCI I (I 130 1) (I 114 13) ((A 115) (I 130 1).toNatClampNeg + (I 114 13))) (eCA A (I 130 1) (I 114 13)) J) pl k1 k2 63 [(0, .ref 100), (1, .int x1)] []
      refine a_aload_n F 0 dX11_answer_63 rfl rfl ?_
      refine a_getr (b := 114) F fl_11_63 rfl (hB _ (by decide)) rfl ((hP 100 7 (by decide)).trans rfl) dX11_answer_64 ?_
      refine a_geti F fl_11_206 rfl (hB _ (by decide)) rfl dX11_answer_67 ?_
      exact a_iret F E dX11_answer_70 (by omega) (by omega) (e_2 c_1 c_2)
    · refine a_aload_n F 0 dX11_answer_25 rfl rfl ?_
      refine a_getr (b := 114) F fl_11_63 rfl (hB _ (by decide)) rfl ((hP 100 7 (by decide)).trans rfl) dX11_answer_26 ?_
      refine a_aload_n F 0 dX11_answer_29 rfl rfl ?_
      refine a_getr (b := 130) F fl_11_22 rfl (hB _ (by decide)) rfl ((hP 100 2 (by decide)).trans rfl) dX11_answer_30 ?_
      refine a_geti F fl_11_134 rfl (hB _ (by decide)) rfl dX11_answer_33 ?_
      refine a_callV (b := 114) (As := [.int (I 130 1)]) (st := []) (ci := 2) F (c_2_takeDouble (xl X) hP I A J hB (I 130 1)) ml_11_228 im_yX2_takeDouble se_yX2_takeDouble (by decide) (by decide) rfl (hB _ (by decide)) rfl rfl dX11_answer_36 (by decide) (by omega) (by omega) (hl_r (hB _ (by decide)) (hl_i hl_nil)) hs_nil ?_
      rintro _ _ _ ⟨rfl, rfl, rfl⟩ _
      show WA X (mC P O (up2 (up2 (up2 I 114 13 (2 * (I 114 13))) 114 2 (1 - (I 130 1))) 114 12 2) A J) pl k1 k2 39 [(0, .ref 100), (1, .int x1)] []
      refine a_goto (tgt := 63) F dX11_answer_39 (by decide) ?_
      refine a_aload_n F 0 dX11_answer_63 rfl rfl ?_
      refine a_getr (b := 114) F fl_11_63 rfl (hB _ (by decide)) rfl ((hP 100 7 (by decide)).trans rfl) dX11_answer_64 ?_
      refine a_geti F fl_11_206 rfl (hB _ (by decide)) rfl dX11_answer_67 ?_
      exact a_iret F E dX11_answer_70 (by omega) (by omega) (e_3 c_1 c_2)
  · exact a_throwS F S T (TW.m103 (List.mem_of_getElem? (i := 10) rfl)) (by decide) dX11_answer_11 dX11_answer_14 dX11_answer_15 dX11_answer_17 dX11_answer_20 (by omega) (by omega) (by decide) (e_4 c_1)

set_option maxRecDepth 10000 in
theorem c_11_answer (l : Launch) (hst : l.stackTraces = false) {P O : Nat → Nat → Option Nat} (hP : laP P) (I A : Nat → Nat → Int32) (J : Nat → Nat → Int64) {pl : List Nat} (hB : inB pl) (z : Int32) (ht : I 130 1 = 0 ∨ I 130 1 = 1) : ConX l 18 yX11_answer cX11_answer 2 (some .int) [.ref 100, .int z] (mC P O I A J) pl 6 36 (fun r σ' pl' => I 114 12 = 4 ∧ (z = 0 → r = some (.int ((eCI I (I 130 1) (I 114 13) (A 115 (I 130 1).toNatClampNeg + I 114 13)) 114 12)) ∧ σ' = mC P O (eCI I (I 130 1) (I 114 13) (A 115 (I 130 1).toNatClampNeg + I 114 13)) (eCA A (I 130 1) (I 114 13)) J ∧ pl = pl') ∧ (¬ z = 0 → r = some (.int ((up2 (up2 (up2 I 114 13 (2 * I 114 13)) 114 2 (1 - I 130 1)) 114 12 2) 114 12)) ∧ σ' = mC P O (up2 (up2 (up2 I 114 13 (2 * I 114 13)) 114 2 (1 - I 130 1)) 114 12 2) A J ∧ pl = pl')) (fun E σ' pl' => E = "java/lang/IllegalStateException" ∧ σ' = mC P O I A J ∧ pl = pl' ∧ ¬ I 114 12 = 4) := by
  refine ConX.of hst (by decide) (Nat.le_of_ble_eq_true rfl) (fun X hX9 hn9 F E S T => ?_)
  refine r_11_answer_0 F S T (by decide) (by decide) E hP hB ?_ ?_ ?_ ?_ <;> (clear F E S T hn9 hX9; (try clear X); first | (intro h1 h2; exact ⟨h1, fun _ => ⟨rfl, rfl, rfl⟩, fun z => absurd h2 z⟩) | (intro h1 h2; exact ⟨h1, fun z => absurd z h2, fun _ => ⟨rfl, rfl, rfl⟩⟩) | (intro h; exact ⟨rfl, rfl, rfl, h⟩) | (intro h1 h2; rcases ht with h | h <;> rw [h] <;> first | exact vp_in_nI (n := 0) (by decide) (by decide) | exact vp_in_nI (n := 1) (by decide) (by decide)))

theorem r_11_roll_0 {X : Ctx} {mc ms k1 k2 : Nat} (F : Fx X cX11_roll RX11 3 18 mc ms) (S : SXX X) {Ψx : String → HS → List Nat → Prop} (T : Tx X mc ms Ψx) (hk1 : k1 + 6 ≤ mc) (hk2 : k2 + 36 ≤ ms) {Φ : Option Value → HS → List Nat → Prop} (E : Ex X (some .int) mc ms Φ) {P O : Nat → Nat → Option Nat} (hP : laP P) {I A : Nat → Nat → Int32} {J : Nat → Nat → Int64} {pl : List Nat} (hB : inB pl) {x1 x2 : Int32}
    (e_1 : ¬ ((1 ≤ x1 ∧ x1 ≤ 6) ∧ (1 ≤ x2 ∧ x2 ≤ 6)) → Ψx "java/lang/IllegalArgumentException" (mC P O I A J) pl)
    (e_2 : ((1 ≤ x1 ∧ x1 ≤ 6) ∧ (1 ≤ x2 ∧ x2 ≤ 6)) → (¬ (I 114 12) = 1) → (¬ (I 114 12) = 2) → Ψx "java/lang/IllegalStateException" (mC P O I A J) pl)
    (e_3 : ((1 ≤ x1 ∧ x1 ≤ 6) ∧ (1 ≤ x2 ∧ x2 ≤ 6)) → (¬ (I 114 12) = 1) → ((I 114 12) = 2) → Φ (some (.int ((tdI I x1 x2) 114 12))) (mC P O (tdI I x1 x2) A J) pl)
    (e_4 : ((1 ≤ x1 ∧ x1 ≤ 6) ∧ (1 ≤ x2 ∧ x2 ≤ 6)) → ((I 114 12) = 1) → Φ (some (.int ((tfI I 130 x1 x2) 114 12))) (mC P O (tfI I 130 x1 x2) A J) pl) :
    WA X (mC P O I A J) pl k1 k2 0 [(0, .ref 100), (1, .int x1), (2, .int x2)] [] := by
  refine a_iload_n F 1 dX11_roll_0 rfl rfl ?_
  refine a_iload_n F 2 dX11_roll_1 rfl rfl ?_
  refine a_callSX (As := [.int x1, .int x2]) (st := []) F S T (c_11_checkDice (xl X) T.1 hP I A J hB x1 x2) ml_11_154 sm_yX11_checkDice (by decide) rfl dX11_roll_2 (by decide) (by omega) (by omega) (hl_r (hB _ (by decide)) (hl_i (hl_i hl_nil))) hs_nil (by rintro _ _ _ ⟨rfl, rfl, rfl, c⟩ _; exact e_1 c) ?_
  rintro _ _ _ ⟨rfl, rfl, rfl, c_1⟩ _
  show WA X (mC P O I A J) pl (k1 + 1) (k2 + 6) 5 [(0, .ref 100), (1, .int x1), (2, .int x2)] []
  refine a_aload_n F 0 dX11_roll_5 rfl rfl ?_
  refine a_getr (b := 114) F fl_11_63 rfl (hB _ (by decide)) rfl ((hP 100 7 (by decide)).trans rfl) dX11_roll_6 ?_
  refine a_geti F fl_11_206 rfl (hB _ (by decide)) rfl dX11_roll_9 ?_
  refine a_iconst (v := 1) F dX11_roll_12 (by decide) ?_
  refine a_icmp_ne (tgt := 32) F dX11_roll_13 (by decide) (fun (c_2 : ¬ (I 114 12) = 1) => ?_) (fun (c_2 : (I 114 12) = 1) => ?_)
  · refine a_aload_n F 0 dX11_roll_32 rfl rfl ?_
    refine a_getr (b := 114) F fl_11_63 rfl (hB _ (by decide)) rfl ((hP 100 7 (by decide)).trans rfl) dX11_roll_33 ?_
    refine a_geti F fl_11_206 rfl (hB _ (by decide)) rfl dX11_roll_36 ?_
    refine a_iconst (v := 2) F dX11_roll_39 (by decide) ?_
    refine a_icmp_ne (tgt := 55) F dX11_roll_40 (by decide) (fun (c_3 : ¬ (I 114 12) = 2) => ?_) (fun (c_3 : (I 114 12) = 2) => ?_)
    · exact a_throwS F S T (TW.m103 (List.mem_of_getElem? (i := 8) rfl)) (by decide) dX11_roll_55 dX11_roll_58 dX11_roll_59 dX11_roll_61 dX11_roll_64 (by omega) (by omega) (by decide) (e_2 c_1 c_2 c_3)
    · refine a_aload_n F 0 dX11_roll_43 rfl rfl ?_
      refine a_getr (b := 114) F fl_11_63 rfl (hB _ (by decide)) rfl ((hP 100 7 (by decide)).trans rfl) dX11_roll_44 ?_
      refine a_iload_n F 1 dX11_roll_47 rfl rfl ?_
      refine a_iload_n F 2 dX11_roll_48 rfl rfl ?_
      refine a_callV (b := 114) (As := [.int x1, .int x2]) (st := []) (ci := 2) F (c_2_takeDice (xl X) hP I A J hB x1 x2) ml_11_213 im_yX2_takeDice se_yX2_takeDice (by decide) (by decide) rfl (hB _ (by decide)) rfl rfl dX11_roll_49 (by decide) (by omega) (by omega) (hl_r (hB _ (by decide)) (hl_i (hl_i hl_nil))) hs_nil ?_
      rintro _ _ _ ⟨rfl, rfl, rfl⟩ _
      show WA X (mC P O (tdI I x1 x2) A J) pl (k1 + 1) (k2 + 6) 52 [(0, .ref 100), (1, .int x1), (2, .int x2)] []
      refine a_goto (tgt := 65) F dX11_roll_52 (by decide) ?_
      refine a_aload_n F 0 dX11_roll_65 rfl rfl ?_
      refine a_getr (b := 114) F fl_11_63 rfl (hB _ (by decide)) rfl ((hP 100 7 (by decide)).trans rfl) dX11_roll_66 ?_
      refine a_geti F fl_11_206 rfl (hB _ (by decide)) rfl dX11_roll_69 ?_
      exact a_iret F E dX11_roll_72 (by omega) (by omega) (e_3 c_1 c_2 c_3)
  · refine a_aload_n F 0 dX11_roll_16 rfl rfl ?_
    refine a_getr (b := 114) F fl_11_63 rfl (hB _ (by decide)) rfl ((hP 100 7 (by decide)).trans rfl) dX11_roll_17 ?_
    refine a_iload_n F 1 dX11_roll_20 rfl rfl ?_
    refine a_iload_n F 2 dX11_roll_21 rfl rfl ?_
    refine a_aload_n F 0 dX11_roll_22 rfl rfl ?_
    refine a_getr (b := 130) F fl_11_22 rfl (hB _ (by decide)) rfl ((hP 100 2 (by decide)).trans rfl) dX11_roll_23 ?_
    refine a_callV (b := 114) (As := [.int x1, .int x2, .ref 130]) (st := []) (ci := 2) F (c_2_takeFirstDice (xl X) hP I A J hB x1 x2 130 rfl (hB _ (by decide)) (hB _ (by decide))) ml_11_209 im_yX2_takeFirstDice se_yX2_takeFirstDice (by decide) (by decide) rfl (hB _ (by decide)) rfl rfl dX11_roll_26 (by decide) (by omega) (by omega) (hl_r (hB _ (by decide)) (hl_i (hl_i hl_nil))) hs_nil ?_
    rintro _ _ _ ⟨rfl, rfl, rfl⟩ _
    show WA X (mC P O (tfI I 130 x1 x2) A J) pl (k1 + 1) (k2 + 6) 29 [(0, .ref 100), (1, .int x1), (2, .int x2)] []
    refine a_goto (tgt := 65) F dX11_roll_29 (by decide) ?_
    refine a_aload_n F 0 dX11_roll_65 rfl rfl ?_
    refine a_getr (b := 114) F fl_11_63 rfl (hB _ (by decide)) rfl ((hP 100 7 (by decide)).trans rfl) dX11_roll_66 ?_
    refine a_geti F fl_11_206 rfl (hB _ (by decide)) rfl dX11_roll_69 ?_
    exact a_iret F E dX11_roll_72 (by omega) (by omega) (e_4 c_1 c_2)

set_option maxRecDepth 10000 in
theorem c_11_roll (l : Launch) (hst : l.stackTraces = false) {P O : Nat → Nat → Option Nat} (hP : laP P) (I A : Nat → Nat → Int32) (J : Nat → Nat → Int64) {pl : List Nat} (hB : inB pl) (a b : Int32) : ConX l 18 yX11_roll cX11_roll 3 (some .int) [.ref 100, .int a, .int b] (mC P O I A J) pl 6 36 (fun r σ' pl' => ((1 ≤ a ∧ a ≤ 6) ∧ (1 ≤ b ∧ b ≤ 6)) ∧ ((I 114 12 = 1 ∧ r = some (.int (tfI I 130 a b 114 12)) ∧ σ' = mC P O (tfI I 130 a b) A J ∧ pl = pl') ∨ (I 114 12 = 2 ∧ r = some (.int (tdI I a b 114 12)) ∧ σ' = mC P O (tdI I a b) A J ∧ pl = pl'))) (fun E σ' pl' => σ' = mC P O I A J ∧ pl = pl' ∧ ((E = "java/lang/IllegalArgumentException" ∧ ¬ ((1 ≤ a ∧ a ≤ 6) ∧ (1 ≤ b ∧ b ≤ 6))) ∨ (E = "java/lang/IllegalStateException" ∧ ((1 ≤ a ∧ a ≤ 6) ∧ (1 ≤ b ∧ b ≤ 6)) ∧ ¬ I 114 12 = 1 ∧ ¬ I 114 12 = 2))) := by
  refine ConX.of hst (by decide) (Nat.le_of_ble_eq_true rfl) (fun X hX9 hn9 F E S T => ?_)
  refine r_11_roll_0 F S T (by decide) (by decide) E hP hB ?_ ?_ ?_ ?_ <;> (clear F E S T hn9 hX9; (try clear X); first | (intro h; exact ⟨rfl, rfl, Or.inl ⟨rfl, h⟩⟩) | (intro h h1 h2; exact ⟨rfl, rfl, Or.inr ⟨rfl, h, h1, h2⟩⟩) | (intro h h1 h2; exact ⟨h, Or.inr ⟨h2, rfl, rfl, rfl⟩⟩) | (intro h h1; exact ⟨h, Or.inl ⟨h1, rfl, rfl, rfl⟩⟩))
