/-! the checks of BearHouse -/
theorem r_11_checkLength_0 {X : Ctx} {mc ms k1 k2 : Nat} (F : Fx X cX11_checkLength RX11 2 1 mc ms) (S : SXX X) {Ψx : String → HS → List Nat → Prop} (T : Tx X mc ms Ψx) (hk1 : k1 + 1 ≤ mc) (hk2 : k2 + 6 ≤ ms) {Φ : Option Value → HS → List Nat → Prop} (E : Ex X none mc ms Φ) {P O : Nat → Nat → Option Nat} (hP : laP P) {I A : Nat → Nat → Int32} {J : Nat → Nat → Int64} {pl : List Nat} (hB : inB pl) {x1 : Int32}
    (e_1 : (x1 < 0) → Ψx "java/lang/IllegalArgumentException" (mC P O I A J) pl)
    (e_2 : (¬ (x1 < 0)) → (x1 ≤ (I 120 1)) → Φ none (mC P O I A J) pl)
    (e_3 : (¬ (x1 < 0)) → (¬ (x1 ≤ (I 120 1))) → Ψx "java/lang/IllegalArgumentException" (mC P O I A J) pl) :
    WA X (mC P O I A J) pl k1 k2 0 [(0, .ref 100), (1, .int x1)] [] := by
  refine a_iload_n F 1 dX11_checkLength_0 rfl rfl ?_
  refine a_if_lt (tgt := 15) F dX11_checkLength_1 (by decide) (fun (c_1 : x1 < 0) => ?_) (fun (c_1 : ¬ (x1 < 0)) => ?_)
  · exact a_throwSW F S T (TW.m153 (List.mem_of_getElem? (i := 0) rfl)) (by decide) dX11_checkLength_15 dX11_checkLength_18 dX11_checkLength_19 dX11_checkLength_22 dX11_checkLength_25 (by omega) (by omega) (by decide) (e_1 c_1)
  · refine a_iload_n F 1 dX11_checkLength_4 rfl rfl ?_
    refine a_aload_n F 0 dX11_checkLength_5 rfl rfl ?_
    refine a_getr (b := 120) F fl_11_10 rfl (hB _ (by decide)) rfl ((hP 100 0 (by decide)).trans rfl) dX11_checkLength_6 ?_
    refine a_geti F fl_11_84 rfl (hB _ (by decide)) rfl dX11_checkLength_9 ?_
    refine a_icmp_le (tgt := 26) F dX11_checkLength_12 (by decide) (fun (c_2 : x1 ≤ (I 120 1)) => ?_) (fun (c_2 : ¬ (x1 ≤ (I 120 1))) => ?_)
    · exact a_vret F E dX11_checkLength_26 (by omega) (by omega) (e_2 c_1 c_2)
    · exact a_throwSW F S T (TW.m153 (List.mem_of_getElem? (i := 0) rfl)) (by decide) dX11_checkLength_15 dX11_checkLength_18 dX11_checkLength_19 dX11_checkLength_22 dX11_checkLength_25 (by omega) (by omega) (by decide) (e_3 c_1 c_2)

set_option maxRecDepth 10000 in
theorem c_11_checkLength (l : Launch) (hst : l.stackTraces = false) {P O : Nat → Nat → Option Nat} (hP : laP P) (I A : Nat → Nat → Int32) (J : Nat → Nat → Int64) {pl : List Nat} (hB : inB pl) (n : Int32) : ConX l 1 yX11_checkLength cX11_checkLength 2 none [.ref 100, .int n] (mC P O I A J) pl 1 6 (fun r σ' pl' => r = none ∧ σ' = mC P O I A J ∧ pl = pl' ∧ (0 ≤ n ∧ n ≤ I 120 1)) (fun E σ' pl' => E = "java/lang/IllegalArgumentException" ∧ σ' = mC P O I A J ∧ pl = pl' ∧ ¬ (0 ≤ n ∧ n ≤ I 120 1)) := by
  refine ConX.of hst (by decide) (Nat.le_of_ble_eq_true rfl) (fun X hX9 hn9 F E S T => ?_)
  refine r_11_checkLength_0 F S T (by decide) (by decide) E hP hB ?_ ?_ ?_ <;> (clear F E S T hn9 hX9; (try clear X); first | (intros; exact ⟨rfl, rfl, rfl, by grind⟩))

theorem r_11_checkDice_0 {X : Ctx} {mc ms k1 k2 : Nat} (F : Fx X cX11_checkDice RX11 2 1 mc ms) (S : SXX X) {Ψx : String → HS → List Nat → Prop} (T : Tx X mc ms Ψx) (hk1 : k1 + 1 ≤ mc) (hk2 : k2 + 6 ≤ ms) {Φ : Option Value → HS → List Nat → Prop} (E : Ex X none mc ms Φ) {P O : Nat → Nat → Option Nat} (hP : laP P) {I A : Nat → Nat → Int32} {J : Nat → Nat → Int64} {pl : List Nat} (hB : inB pl) {x0 x1 : Int32}
    (e_1 : (x0 < 1) → Ψx "java/lang/IllegalArgumentException" (mC P O I A J) pl)
    (e_2 : (¬ (x0 < 1)) → (6 < x0) → Ψx "java/lang/IllegalArgumentException" (mC P O I A J) pl)
    (e_3 : (¬ (x0 < 1)) → (¬ (6 < x0)) → (x1 < 1) → Ψx "java/lang/IllegalArgumentException" (mC P O I A J) pl)
    (e_4 : (¬ (x0 < 1)) → (¬ (6 < x0)) → (¬ (x1 < 1)) → (x1 ≤ 6) → Φ none (mC P O I A J) pl)
    (e_5 : (¬ (x0 < 1)) → (¬ (6 < x0)) → (¬ (x1 < 1)) → (¬ (x1 ≤ 6)) → Ψx "java/lang/IllegalArgumentException" (mC P O I A J) pl) :
    WA X (mC P O I A J) pl k1 k2 0 [(0, .int x0), (1, .int x1)] [] := by
  refine a_iload_n F 0 dX11_checkDice_0 rfl rfl ?_
  refine a_iconst (v := 1) F dX11_checkDice_1 (by decide) ?_
  refine a_icmp_lt (tgt := 22) F dX11_checkDice_2 (by decide) (fun (c_1 : x0 < 1) => ?_) (fun (c_1 : ¬ (x0 < 1)) => ?_)
  · exact a_throwSW F S T (TW.m153 (List.mem_of_getElem? (i := 4) rfl)) (by decide) dX11_checkDice_22 dX11_checkDice_25 dX11_checkDice_26 dX11_checkDice_29 dX11_checkDice_32 (by omega) (by omega) (by decide) (e_1 c_1)
  · refine a_iload_n F 0 dX11_checkDice_5 rfl rfl ?_
    refine a_bipush (v := 6) F dX11_checkDice_6 (by decide) ?_
    refine a_icmp_gt (tgt := 22) F dX11_checkDice_8 (by decide) (fun (c_2 : 6 < x0) => ?_) (fun (c_2 : ¬ (6 < x0)) => ?_)
    · exact a_throwSW F S T (TW.m153 (List.mem_of_getElem? (i := 4) rfl)) (by decide) dX11_checkDice_22 dX11_checkDice_25 dX11_checkDice_26 dX11_checkDice_29 dX11_checkDice_32 (by omega) (by omega) (by decide) (e_2 c_1 c_2)
    · refine a_iload_n F 1 dX11_checkDice_11 rfl rfl ?_
      refine a_iconst (v := 1) F dX11_checkDice_12 (by decide) ?_
      refine a_icmp_lt (tgt := 22) F dX11_checkDice_13 (by decide) (fun (c_3 : x1 < 1) => ?_) (fun (c_3 : ¬ (x1 < 1)) => ?_)
      · exact a_throwSW F S T (TW.m153 (List.mem_of_getElem? (i := 4) rfl)) (by decide) dX11_checkDice_22 dX11_checkDice_25 dX11_checkDice_26 dX11_checkDice_29 dX11_checkDice_32 (by omega) (by omega) (by decide) (e_3 c_1 c_2 c_3)
      · refine a_iload_n F 1 dX11_checkDice_16 rfl rfl ?_
        refine a_bipush (v := 6) F dX11_checkDice_17 (by decide) ?_
        refine a_icmp_le (tgt := 33) F dX11_checkDice_19 (by decide) (fun (c_4 : x1 ≤ 6) => ?_) (fun (c_4 : ¬ (x1 ≤ 6)) => ?_)
        · exact a_vret F E dX11_checkDice_33 (by omega) (by omega) (e_4 c_1 c_2 c_3 c_4)
        · exact a_throwSW F S T (TW.m153 (List.mem_of_getElem? (i := 4) rfl)) (by decide) dX11_checkDice_22 dX11_checkDice_25 dX11_checkDice_26 dX11_checkDice_29 dX11_checkDice_32 (by omega) (by omega) (by decide) (e_5 c_1 c_2 c_3 c_4)

set_option maxRecDepth 10000 in
theorem c_11_checkDice (l : Launch) (hst : l.stackTraces = false) {P O : Nat → Nat → Option Nat} (hP : laP P) (I A : Nat → Nat → Int32) (J : Nat → Nat → Int64) {pl : List Nat} (hB : inB pl) (a b : Int32) : ConX l 1 yX11_checkDice cX11_checkDice 2 none [.int a, .int b] (mC P O I A J) pl 1 6 (fun r σ' pl' => r = none ∧ σ' = mC P O I A J ∧ pl = pl' ∧ ((1 ≤ a ∧ a ≤ 6) ∧ (1 ≤ b ∧ b ≤ 6))) (fun E σ' pl' => E = "java/lang/IllegalArgumentException" ∧ σ' = mC P O I A J ∧ pl = pl' ∧ ¬ ((1 ≤ a ∧ a ≤ 6) ∧ (1 ≤ b ∧ b ≤ 6))) := by
  refine ConX.of hst (by decide) (Nat.le_of_ble_eq_true rfl) (fun X hX9 hn9 F E S T => ?_)
  refine r_11_checkDice_0 F S T (by decide) (by decide) E hP hB ?_ ?_ ?_ ?_ ?_ <;> (clear F E S T hn9 hX9; (try clear X); first | (intros; exact ⟨rfl, rfl, rfl, by grind⟩))

theorem r_11_checkPlace_0 {X : Ctx} {mc ms k1 k2 : Nat} (F : Fx X cX11_checkPlace RX11 2 1 mc ms) (S : SXX X) {Ψx : String → HS → List Nat → Prop} (T : Tx X mc ms Ψx) (hk1 : k1 + 1 ≤ mc) (hk2 : k2 + 6 ≤ ms) {Φ : Option Value → HS → List Nat → Prop} (E : Ex X none mc ms Φ) {P O : Nat → Nat → Option Nat} (hP : laP P) {I A : Nat → Nat → Int32} {J : Nat → Nat → Int64} {pl : List Nat} (hB : inB pl) {x0 x1 : Int32}
    (e_1 : (x0 < 0) → Ψx "java/lang/IndexOutOfBoundsException" (mC P O I A J) pl)
    (e_2 : (¬ (x0 < 0)) → (1 < x0) → Ψx "java/lang/IndexOutOfBoundsException" (mC P O I A J) pl)
    (e_3 : (¬ (x0 < 0)) → (¬ (1 < x0)) → (x1 < 0) → Ψx "java/lang/IndexOutOfBoundsException" (mC P O I A J) pl)
    (e_4 : (¬ (x0 < 0)) → (¬ (1 < x0)) → (¬ (x1 < 0)) → (x1 ≤ 25) → Φ none (mC P O I A J) pl)
    (e_5 : (¬ (x0 < 0)) → (¬ (1 < x0)) → (¬ (x1 < 0)) → (¬ (x1 ≤ 25)) → Ψx "java/lang/IndexOutOfBoundsException" (mC P O I A J) pl) :
    WA X (mC P O I A J) pl k1 k2 0 [(0, .int x0), (1, .int x1)] [] := by
  refine a_iload_n F 0 dX11_checkPlace_0 rfl rfl ?_
  refine a_if_lt (tgt := 19) F dX11_checkPlace_1 (by decide) (fun (c_1 : x0 < 0) => ?_) (fun (c_1 : ¬ (x0 < 0)) => ?_)
  · exact a_throwSW F S T (TW.m317 (List.mem_of_getElem? (i := 2) rfl)) (by decide) dX11_checkPlace_19 dX11_checkPlace_22 dX11_checkPlace_23 dX11_checkPlace_26 dX11_checkPlace_29 (by omega) (by omega) (by decide) (e_1 c_1)
  · refine a_iload_n F 0 dX11_checkPlace_4 rfl rfl ?_
    refine a_iconst (v := 1) F dX11_checkPlace_5 (by decide) ?_
    refine a_icmp_gt (tgt := 19) F dX11_checkPlace_6 (by decide) (fun (c_2 : 1 < x0) => ?_) (fun (c_2 : ¬ (1 < x0)) => ?_)
    · exact a_throwSW F S T (TW.m317 (List.mem_of_getElem? (i := 2) rfl)) (by decide) dX11_checkPlace_19 dX11_checkPlace_22 dX11_checkPlace_23 dX11_checkPlace_26 dX11_checkPlace_29 (by omega) (by omega) (by decide) (e_2 c_1 c_2)
    · refine a_iload_n F 1 dX11_checkPlace_9 rfl rfl ?_
      refine a_if_lt (tgt := 19) F dX11_checkPlace_10 (by decide) (fun (c_3 : x1 < 0) => ?_) (fun (c_3 : ¬ (x1 < 0)) => ?_)
      · exact a_throwSW F S T (TW.m317 (List.mem_of_getElem? (i := 2) rfl)) (by decide) dX11_checkPlace_19 dX11_checkPlace_22 dX11_checkPlace_23 dX11_checkPlace_26 dX11_checkPlace_29 (by omega) (by omega) (by decide) (e_3 c_1 c_2 c_3)
      · refine a_iload_n F 1 dX11_checkPlace_13 rfl rfl ?_
        refine a_bipush (v := 25) F dX11_checkPlace_14 (by decide) ?_
        refine a_icmp_le (tgt := 30) F dX11_checkPlace_16 (by decide) (fun (c_4 : x1 ≤ 25) => ?_) (fun (c_4 : ¬ (x1 ≤ 25)) => ?_)
        · exact a_vret F E dX11_checkPlace_30 (by omega) (by omega) (e_4 c_1 c_2 c_3 c_4)
        · exact a_throwSW F S T (TW.m317 (List.mem_of_getElem? (i := 2) rfl)) (by decide) dX11_checkPlace_19 dX11_checkPlace_22 dX11_checkPlace_23 dX11_checkPlace_26 dX11_checkPlace_29 (by omega) (by omega) (by decide) (e_5 c_1 c_2 c_3 c_4)

set_option maxRecDepth 10000 in
theorem c_11_checkPlace (l : Launch) (hst : l.stackTraces = false) {P O : Nat → Nat → Option Nat} (hP : laP P) (I A : Nat → Nat → Int32) (J : Nat → Nat → Int64) {pl : List Nat} (hB : inB pl) (a b : Int32) : ConX l 1 yX11_checkPlace cX11_checkPlace 2 none [.int a, .int b] (mC P O I A J) pl 1 6 (fun r σ' pl' => r = none ∧ σ' = mC P O I A J ∧ pl = pl' ∧ ((0 ≤ a ∧ a ≤ 1) ∧ (0 ≤ b ∧ b ≤ 25))) (fun E σ' pl' => E = "java/lang/IndexOutOfBoundsException" ∧ σ' = mC P O I A J ∧ pl = pl' ∧ ¬ ((0 ≤ a ∧ a ≤ 1) ∧ (0 ≤ b ∧ b ≤ 25))) := by
  refine ConX.of hst (by decide) (Nat.le_of_ble_eq_true rfl) (fun X hX9 hn9 F E S T => ?_)
  refine r_11_checkPlace_0 F S T (by decide) (by decide) E hP hB ?_ ?_ ?_ ?_ ?_ <;> (clear F E S T hn9 hX9; (try clear X); first | (intros; exact ⟨rfl, rfl, rfl, by grind⟩))

theorem r_11_checkResult_0 {X : Ctx} {mc ms k1 k2 : Nat} (F : Fx X cX11_checkResult RX11 2 1 mc ms) (S : SXX X) {Ψx : String → HS → List Nat → Prop} (T : Tx X mc ms Ψx) (hk1 : k1 + 1 ≤ mc) (hk2 : k2 + 6 ≤ ms) {Φ : Option Value → HS → List Nat → Prop} (E : Ex X none mc ms Φ) {P O : Nat → Nat → Option Nat} (hP : laP P) {I A : Nat → Nat → Int32} {J : Nat → Nat → Int64} {pl : List Nat} (hB : inB pl) {x1 : Int32}
    (e_1 : (x1 < 0) → Ψx nsN (mC P O I A J) pl)
    (e_2 : (¬ (x1 < 0)) → (x1 < (I 110 7)) → Φ none (mC P O I A J) pl)
    (e_3 : (¬ (x1 < 0)) → (¬ (x1 < (I 110 7))) → Ψx nsN (mC P O I A J) pl) :
    WA X (mC P O I A J) pl k1 k2 0 [(0, .ref 100), (1, .int x1)] [] := by
  refine a_iload_n F 1 dX11_checkResult_0 rfl rfl ?_
  refine a_if_lt (tgt := 15) F dX11_checkResult_1 (by decide) (fun (c_1 : x1 < 0) => ?_) (fun (c_1 : ¬ (x1 < 0)) => ?_)
  · exact a_throwN F S T (List.mem_of_getElem? (i := 6) rfl) (by decide) dX11_checkResult_15 dX11_checkResult_18 dX11_checkResult_19 dX11_checkResult_22 dX11_checkResult_25 (by omega) (by omega) (by decide) (e_1 c_1)
  · refine a_iload_n F 1 dX11_checkResult_4 rfl rfl ?_
    refine a_aload_n F 0 dX11_checkResult_5 rfl rfl ?_
    refine a_getr (b := 110) F fl_11_56 rfl (hB _ (by decide)) rfl ((hP 100 6 (by decide)).trans rfl) dX11_checkResult_6 ?_
    refine a_geti F fl_11_144 rfl (hB _ (by decide)) rfl dX11_checkResult_9 ?_
    refine a_icmp_lt (tgt := 26) F dX11_checkResult_12 (by decide) (fun (c_2 : x1 < (I 110 7)) => ?_) (fun (c_2 : ¬ (x1 < (I 110 7))) => ?_)
    · exact a_vret F E dX11_checkResult_26 (by omega) (by omega) (e_2 c_1 c_2)
    · exact a_throwN F S T (List.mem_of_getElem? (i := 6) rfl) (by decide) dX11_checkResult_15 dX11_checkResult_18 dX11_checkResult_19 dX11_checkResult_22 dX11_checkResult_25 (by omega) (by omega) (by decide) (e_3 c_1 c_2)

set_option maxRecDepth 10000 in
theorem c_11_checkResult (l : Launch) (hst : l.stackTraces = false) {P O : Nat → Nat → Option Nat} (hP : laP P) (I A : Nat → Nat → Int32) (J : Nat → Nat → Int64) {pl : List Nat} (hB : inB pl) (n : Int32) : ConX l 1 yX11_checkResult cX11_checkResult 2 none [.ref 100, .int n] (mC P O I A J) pl 1 6 (fun r σ' pl' => r = none ∧ σ' = mC P O I A J ∧ pl = pl' ∧ (0 ≤ n ∧ n < I 110 7)) (fun E σ' pl' => E = nsN ∧ σ' = mC P O I A J ∧ pl = pl' ∧ ¬ (0 ≤ n ∧ n < I 110 7)) := by
  refine ConX.of hst (by decide) (Nat.le_of_ble_eq_true rfl) (fun X hX9 hn9 F E S T => ?_)
  refine r_11_checkResult_0 F S T (by decide) (by decide) E hP hB ?_ ?_ ?_ <;> (clear F E S T hn9 hX9; (try clear X); first | (intros; exact ⟨rfl, rfl, rfl, by grind⟩))

theorem r_11_checkDue_0 {X : Ctx} {mc ms k1 k2 : Nat} (F : Fx X cX11_checkDue RX11 3 3 mc ms) (S : SXX X) {Ψx : String → HS → List Nat → Prop} (T : Tx X mc ms Ψx) (hk1 : k1 + 1 ≤ mc) (hk2 : k2 + 6 ≤ ms) {Φ : Option Value → HS → List Nat → Prop} (E : Ex X none mc ms Φ) {P O : Nat → Nat → Option Nat} (hP : laP P) {I A : Nat → Nat → Int32} {J : Nat → Nat → Int64} {pl : List Nat} (hB : inB pl) {x1 x2 : Int32}
    (e_1 : (undC I) → (dueC I x1 x2) → Φ none (mC P O I A J) pl)
    (e_2 : (undC I) → (¬ (dueC I x1 x2)) → Ψx "java/lang/IllegalStateException" (mC P O I A J) pl)
    (e_3 : (¬ (undC I)) → Φ none (mC P O I A J) pl) :
    WA X (mC P O I A J) pl k1 k2 0 [(0, .ref 100), (1, .int x1), (2, .int x2)] [] := by
  refine a_aload_n F 0 dX11_checkDue_0 rfl rfl ?_
  refine a_getr (b := 114) F fl_11_63 rfl (hB _ (by decide)) rfl ((hP 100 7 (by decide)).trans rfl) dX11_checkDue_1 ?_
  refine a_callV (b := 114) (As := []) (st := []) (ci := 2) F (c_2_isUnderWay (xl X) hP I A J hB) ml_11_95 im_yX2_isUnderWay se_yX2_isUnderWay (by decide) (by decide) rfl (hB _ (by decide)) rfl rfl dX11_checkDue_4 (by decide) (by omega) (by omega) (hl_r (hB _ (by decide)) (hl_i (hl_i hl_nil))) hs_nil ?_
  rintro _ _ _ ⟨rfl, rfl, rfl⟩ _
  show WA X (mC P O I A J) pl k1 k2 7 [(0, .ref 100), (1, .int x1), (2, .int x2)] [.int (@ite Int32 (undC I) (Classical.propDecidable _) 1 0)]
  refine a_ite (fun (c_1 : undC I) => ?_) (fun (c_1 : ¬ (undC I)) => ?_)
  · refine a_if_eq (tgt := 33) F dX11_checkDue_7 (by decide) (fun (c_2 : (1 : Int32) = 0) => ?_) (fun (c_2 : ¬ ((1 : Int32) = 0)) => ?_)
    · exact absurd c_2 (by decide)
    · refine a_aload_n F 0 dX11_checkDue_10 rfl rfl ?_
      refine a_getr (b := 114) F fl_11_63 rfl (hB _ (by decide)) rfl ((hP 100 7 (by decide)).trans rfl) dX11_checkDue_11 ?_
      refine a_iload_n F 1 dX11_checkDue_14 rfl rfl ?_
      refine a_iload_n F 2 dX11_checkDue_15 rfl rfl ?_
      refine a_callV (b := 114) (As := [.int x1, .int x2]) (st := []) (ci := 2) F (c_2_areDue (xl X) hP I A J hB x1 x2) ml_11_302 im_yX2_areDue se_yX2_areDue (by decide) (by decide) rfl (hB _ (by decide)) rfl rfl dX11_checkDue_16 (by decide) (by omega) (by omega) (hl_r (hB _ (by decide)) (hl_i (hl_i hl_nil))) hs_nil ?_
      rintro _ _ _ ⟨rfl, rfl, rfl⟩ _
      show WA X (mC P O I A J) pl k1 k2 19 [(0, .ref 100), (1, .int x1), (2, .int x2)] [.int (@ite Int32 (dueC I x1 x2) (Classical.propDecidable _) 1 0)]
      refine a_ite (fun (c_3 : dueC I x1 x2) => ?_) (fun (c_3 : ¬ (dueC I x1 x2)) => ?_)
      · refine a_if_ne (tgt := 33) F dX11_checkDue_19 (by decide) (fun (c_4 : ¬ (1 : Int32) = 0) => ?_) (fun (c_4 : (1 : Int32) = 0) => ?_)
        · exact a_vret F E dX11_checkDue_33 (by omega) (by omega) (e_1 c_1 c_3)
        · exact absurd c_4 (by decide)
      · refine a_if_ne (tgt := 33) F dX11_checkDue_19 (by decide) (fun (c_5 : ¬ (0 : Int32) = 0) => ?_) (fun (c_5 : (0 : Int32) = 0) => ?_)
        · exact absurd c_5 (by decide)
        · exact a_throwSW F S T (TW.m103 (List.mem_of_getElem? (i := 5) rfl)) (by decide) dX11_checkDue_22 dX11_checkDue_25 dX11_checkDue_26 dX11_checkDue_29 dX11_checkDue_32 (by omega) (by omega) (by decide) (e_2 c_1 c_3)
  · refine a_if_eq (tgt := 33) F dX11_checkDue_7 (by decide) (fun (c_6 : (0 : Int32) = 0) => ?_) (fun (c_6 : ¬ ((0 : Int32) = 0)) => ?_)
    · exact a_vret F E dX11_checkDue_33 (by omega) (by omega) (e_3 c_1)
    · exact absurd c_6 (by decide)

set_option maxRecDepth 10000 in
theorem c_11_checkDue (l : Launch) (hst : l.stackTraces = false) {P O : Nat → Nat → Option Nat} (hP : laP P) (I A : Nat → Nat → Int32) (J : Nat → Nat → Int64) {pl : List Nat} (hB : inB pl) (a b : Int32) : ConX l 3 yX11_checkDue cX11_checkDue 3 none [.ref 100, .int a, .int b] (mC P O I A J) pl 1 6 (fun r σ' pl' => r = none ∧ σ' = mC P O I A J ∧ pl = pl' ∧ (undC I → dueC I a b)) (fun E σ' pl' => E = "java/lang/IllegalStateException" ∧ σ' = mC P O I A J ∧ pl = pl' ∧ ¬ (undC I → dueC I a b)) := by
  refine ConX.of hst (by decide) (Nat.le_of_ble_eq_true rfl) (fun X hX9 hn9 F E S T => ?_)
  refine r_11_checkDue_0 F S T (by decide) (by decide) E hP hB ?_ ?_ ?_ <;> (clear F E S T hn9 hX9; (try clear X); first | (intro h1 h2; exact ⟨rfl, rfl, rfl, fun _ => h2⟩) | (intro h1 h2; exact ⟨rfl, rfl, rfl, fun z => h2 (z h1)⟩) | (intro h1; exact ⟨rfl, rfl, rfl, fun z => absurd z h1⟩))

theorem r_11_checkStand_0 {X : Ctx} {mc ms k1 k2 : Nat} (F : Fx X cX11_checkStand RX11 1 4 mc ms) (S : SXX X) {Ψx : String → HS → List Nat → Prop} (T : Tx X mc ms Ψx) (hk1 : k1 + 1 ≤ mc) (hk2 : k2 + 6 ≤ ms) {Φ : Option Value → HS → List Nat → Prop} (E : Ex X none mc ms Φ) {P O : Nat → Nat → Option Nat} (hP : laP P) {I A : Nat → Nat → Int32} {J : Nat → Nat → Int64} {pl : List Nat} (hB : inB pl) {x0 : Int32}
    (e_1 : (stdI x0) → Φ none (mC P O I A J) pl)
    (e_2 : (¬ (stdI x0)) → Ψx "java/lang/IllegalArgumentException" (mC P O I A J) pl) :
    WA X (mC P O I A J) pl k1 k2 0 [(0, .int x0)] [] := by
  refine a_iload_n F 0 dX11_checkStand_0 rfl rfl ?_
  refine a_callS (As := [.int x0]) (st := []) F (c_8_isStand (xl X) hP I A J hB x0) ml_11_318 sm_yX8_isStand (by decide) rfl dX11_checkStand_1 (by decide) (by omega) (by omega) (hl_i hl_nil) hs_nil ?_
  rintro _ _ _ ⟨rfl, rfl, rfl⟩ _
  show WA X (mC P O I A J) pl k1 k2 4 [(0, .int x0)] [.int (@ite Int32 (stdI x0) (Classical.propDecidable _) 1 0)]
  refine a_ite (fun (c_1 : stdI x0) => ?_) (fun (c_1 : ¬ (stdI x0)) => ?_)
  · refine a_if_ne (tgt := 18) F dX11_checkStand_4 (by decide) (fun (c_2 : ¬ (1 : Int32) = 0) => ?_) (fun (c_2 : (1 : Int32) = 0) => ?_)
    · exact a_vret F E dX11_checkStand_18 (by omega) (by omega) (e_1 c_1)
    · exact absurd c_2 (by decide)
  · refine a_if_ne (tgt := 18) F dX11_checkStand_4 (by decide) (fun (c_3 : ¬ (0 : Int32) = 0) => ?_) (fun (c_3 : (0 : Int32) = 0) => ?_)
    · exact absurd c_3 (by decide)
    · exact a_throwSW F S T (TW.m153 (List.mem_of_getElem? (i := 13) rfl)) (by decide) dX11_checkStand_7 dX11_checkStand_10 dX11_checkStand_11 dX11_checkStand_14 dX11_checkStand_17 (by omega) (by omega) (by decide) (e_2 c_1)

set_option maxRecDepth 10000 in
theorem c_11_checkStand (l : Launch) (hst : l.stackTraces = false) {P O : Nat → Nat → Option Nat} (hP : laP P) (I A : Nat → Nat → Int32) (J : Nat → Nat → Int64) {pl : List Nat} (hB : inB pl) (x : Int32) : ConX l 4 yX11_checkStand cX11_checkStand 1 none [.int x] (mC P O I A J) pl 1 6 (fun r σ' pl' => r = none ∧ σ' = mC P O I A J ∧ pl = pl' ∧ (stdI x)) (fun E σ' pl' => E = "java/lang/IllegalArgumentException" ∧ σ' = mC P O I A J ∧ pl = pl' ∧ ¬ (stdI x)) := by
  refine ConX.of hst (by decide) (Nat.le_of_ble_eq_true rfl) (fun X hX9 hn9 F E S T => ?_)
  refine r_11_checkStand_0 F S T (by decide) (by decide) E hP hB ?_ ?_ <;> (clear F E S T hn9 hX9; (try clear X); intro h; exact ⟨rfl, rfl, rfl, h⟩)

theorem r_11_checkKnown_0 {X : Ctx} {mc ms k1 k2 : Nat} (F : Fx X cX11_checkKnown RX11 2 4 mc ms) (S : SXX X) {Ψx : String → HS → List Nat → Prop} (T : Tx X mc ms Ψx) (hk1 : k1 + 1 ≤ mc) (hk2 : k2 + 6 ≤ ms) {P O : Nat → Nat → Option Nat} (hP : laP P) {I A : Nat → Nat → Int32} {J : Nat → Nat → Int64} {pl : List Nat} (hB : inB pl) {x1 : Int32}
    (e_1 : WA X (mC P O I A J) pl k1 k2 1 [(0, .ref 100), (1, .int x1)] [.int x1]) :
    WA X (mC P O I A J) pl k1 k2 0 [(0, .ref 100), (1, .int x1)] [] := by
  refine a_iload_n F 1 dX11_checkKnown_0 rfl rfl ?_
  exact e_1

theorem r_11_checkKnown_4b {X : Ctx} {mc ms k1 k2 : Nat} (F : Fx X cX11_checkKnown RX11 2 4 mc ms) (S : SXX X) {Ψx : String → HS → List Nat → Prop} (T : Tx X mc ms Ψx) (hk1 : k1 + 1 ≤ mc) (hk2 : k2 + 6 ≤ ms) {Φ : Option Value → HS → List Nat → Prop} (E : Ex X none mc ms Φ) {P O : Nat → Nat → Option Nat} (hP : laP P) {I A : Nat → Nat → Int32} {J : Nat → Nat → Int64} {pl : List Nat} (hB : inB pl) {x1 z9 : Int32}
    (e_1 : (z9 ≤ (I 100 10)) → Φ none (mC P O I A J) pl)
    (e_2 : (¬ (z9 ≤ (I 100 10))) → Ψx "java/lang/IllegalStateException" (mC P O I A J) pl) :
    WA X (mC P O I A J) pl k1 k2 4 [(0, .ref 100), (1, .int x1)] [.int z9] := by
  refine a_aload_n F 0 dX11_checkKnown_4 rfl rfl ?_
  refine a_geti F fl_11_146 rfl (hB _ (by decide)) rfl dX11_checkKnown_5 ?_
  refine a_icmp_le (tgt := 22) F dX11_checkKnown_8 (by decide) (fun (c_1 : z9 ≤ (I 100 10)) => ?_) (fun (c_1 : ¬ (z9 ≤ (I 100 10))) => ?_)
  · exact a_vret F E dX11_checkKnown_22 (by omega) (by omega) (e_1 c_1)
  · exact a_throwSW F S T (TW.m103 (List.mem_of_getElem? (i := 14) rfl)) (by decide) dX11_checkKnown_11 dX11_checkKnown_14 dX11_checkKnown_15 dX11_checkKnown_18 dX11_checkKnown_21 (by omega) (by omega) (by decide) (e_2 c_1)

set_option maxRecDepth 10000 in
theorem c_11_checkKnown (l : Launch) (hst : l.stackTraces = false) {P O : Nat → Nat → Option Nat} (hP : laP P) (I A : Nat → Nat → Int32) (J : Nat → Nat → Int64) {pl : List Nat} (hB : inB pl) (s : Nat) (hs : s < 2 ^ 31) : ConX l 4 yX11_checkKnown cX11_checkKnown 2 none [.ref 100, .int (nI s)] (mC P O I A J) pl 1 6 (fun r σ' pl' => r = none ∧ σ' = mC P O I A J ∧ pl = pl' ∧ nI (pipS s) ≤ I 100 10) (fun E σ' pl' => E = "java/lang/IllegalStateException" ∧ σ' = mC P O I A J ∧ pl = pl' ∧ ¬ (nI (pipS s) ≤ I 100 10)) := by
  refine ConX.of hst (by decide) (Nat.le_of_ble_eq_true rfl) (fun X hX9 hn9 F E S T => ?_)
  refine r_11_checkKnown_0 F S T (by decide) (by decide) hP hB ?_
  refine a_callS (As := [.int (nI s)]) (st := []) F (c_8_pips (xl X) hP I A J hB s hs) ml_11_323 sm_yX8_pips (by decide) rfl dX11_checkKnown_1 (by decide) (by decide) (by decide) (hl_r (hB _ (by decide)) (hl_i hl_nil)) hs_nil ?_
  rintro _ _ _ ⟨rfl, rfl, rfl⟩ _
  refine r_11_checkKnown_4b F S T (by decide) (by decide) E hP hB ?_ ?_ <;> (clear F E S T hn9 hX9; (try clear X); intro h; exact ⟨rfl, rfl, rfl, h⟩)
