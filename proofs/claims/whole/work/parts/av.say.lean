/-! public method: say -/
def sayC (P O : Nat → Nat → Option Nat) (I A : Nat → Nat → Int32) (J : Nat → Nat → Int64) (pl : List Nat) (n m a b : Nat) (B : Nat → Nat) (τ : TB) (res : Except (Nat × Nat) MV) : Option Value → HS → List Nat → Prop := fun r σ' pl' => ∃ I1 A1, FrT I I1 ∧ (∀ q, q ≠ 107 → q ≠ 108 → q ≠ 109 → A1 q = A q) ∧
  match res with
  | .error fp => I1 104 7 = nI fp.1 ∧ I1 104 8 = nI fp.2 ∧ σ' = mC P O (up2 I1 120 1 0) A1 J ∧ pl = pl' ∧ r = some (.int (if nI fp.1 = 0 then -1 else -1 - nI fp.1))
  | .ok mv => I1 104 1 = nI n ∧ I1 104 7 = 0 ∧ I1 104 8 = -1 ∧ mvC I1 A1 mv ∧ ∃ P2 I2 A2 J2, gsQ P O I1 A1 J pl m B τ none (mC P2 O I2 A2 J2) pl' ∧ ∃ v I3 A3 J3, nzQ P2 O I2 A2 J2 pl' m a b mv B τ (some (.int v)) (mC P2 O I3 A3 J3) pl' ∧
    ((v = -1 ∧ r = some (.int (-4)) ∧ σ' = mC P2 O (up2 (up2 (up2 I3 104 7 3) 104 8 (nI n)) 120 1 0) A3 J3) ∨ (¬ v = -1 ∧ I3 110 8 = 0 ∧ r = some (.int (-5)) ∧ σ' = mC P2 O (up2 (up2 (up2 I3 104 7 4) 104 8 (nI n)) 120 1 0) A3 J3) ∨ (¬ v = -1 ∧ ¬ I3 110 8 = 0 ∧ r = some (.int v) ∧ σ' = mC P2 O (up2 I3 120 1 0) A3 J3))
theorem mvC.cg {I A I' A' : Nat → Nat → Int32} {mv : MV} (h : mvC I A mv) (h1 : I' 106 5 = I 106 5) (h2 : A' 107 = A 107) (h3 : A' 108 = A 108) (h4 : A' 109 = A 109) : mvC I' A' mv := by
  unfold mvC at h ⊢
  rw [h1, h2, h3, h4]; exact h
theorem r_11_say_0 {X : Ctx} {mc ms k1 k2 : Nat} (F : Fx X cX11_say RX11 5 18 mc ms) (S : SXX X) {Ψx : String → HS → List Nat → Prop} (T : Tx X mc ms Ψx) (hk1 : k1 + 6 ≤ mc) (hk2 : k2 + 36 ≤ ms) {P O : Nat → Nat → Option Nat} (hP : laP P) {I A : Nat → Nat → Int32} {J : Nat → Nat → Int64} {pl : List Nat} (hB : inB pl) {x1 x2 x3 : Int32}
    (e_1 : ¬ (0 ≤ x1 ∧ x1 ≤ (I 120 1)) → Ψx "java/lang/IllegalArgumentException" (mC P O I A J) pl)
    (e_2 : (0 ≤ x1 ∧ x1 ≤ (I 120 1)) → ¬ ((1 ≤ x2 ∧ x2 ≤ 6) ∧ (1 ≤ x3 ∧ x3 ≤ 6)) → Ψx "java/lang/IllegalArgumentException" (mC P O I A J) pl)
    (e_3 : (0 ≤ x1 ∧ x1 ≤ (I 120 1)) → ((1 ≤ x2 ∧ x2 ≤ 6) ∧ (1 ≤ x3 ∧ x3 ≤ 6)) → ¬ (undC I → dueC I x2 x3) → Ψx "java/lang/IllegalStateException" (mC P O I A J) pl)
    (e_4 : (0 ≤ x1 ∧ x1 ≤ (I 120 1)) → ((1 ≤ x2 ∧ x2 ≤ 6) ∧ (1 ≤ x3 ∧ x3 ≤ 6)) → (undC I → dueC I x2 x3) → WA X (mC P O I A J) pl (k1 + 1 + 1 + 1) (k2 + 6 + 6 + 6) 24 [(4, .int (-1)), (0, .ref 100), (1, .int x1), (2, .int x2), (3, .int x3)] [.int x1, .ref 106]) :
    WA X (mC P O I A J) pl k1 k2 0 [(0, .ref 100), (1, .int x1), (2, .int x2), (3, .int x3)] [] := by
  refine a_aload_n F 0 dX11_say_0 rfl rfl ?_
  refine a_iload_n F 1 dX11_say_1 rfl rfl ?_
  refine a_callVX (b := 100) (As := [.int x1]) (st := []) (ci := 11) F S T (c_11_checkLength (xl X) T.1 hP I A J hB x1) ml_11_92 im_yX11_checkLength se_yX11_checkLength (by decide) (by decide) rfl (hB _ (by decide)) rfl rfl dX11_say_2 (by decide) (by omega) (by omega) (hl_r (hB _ (by decide)) (hl_i (hl_i (hl_i hl_nil)))) hs_nil (by rintro _ _ _ ⟨rfl, rfl, rfl, c⟩ _; exact e_1 c) ?_
  rintro _ _ _ ⟨rfl, rfl, rfl, c_1⟩ _
  show WA X (mC P O I A J) pl (k1 + 1) (k2 + 6) 5 [(0, .ref 100), (1, .int x1), (2, .int x2), (3, .int x3)] []
  refine a_iload_n F 2 dX11_say_5 rfl rfl ?_
  refine a_iload_n F 3 dX11_say_6 rfl rfl ?_
  refine a_callSX (As := [.int x2, .int x3]) (st := []) F S T (c_11_checkDice (xl X) T.1 hP I A J hB x2 x3) ml_11_154 sm_yX11_checkDice (by decide) rfl dX11_say_7 (by decide) (by omega) (by omega) (hl_r (hB _ (by decide)) (hl_i (hl_i (hl_i hl_nil)))) hs_nil (by rintro _ _ _ ⟨rfl, rfl, rfl, c⟩ _; exact e_2 c_1 c) ?_
  rintro _ _ _ ⟨rfl, rfl, rfl, c_2⟩ _
  show WA X (mC P O I A J) pl (k1 + 1 + 1) (k2 + 6 + 6) 10 [(0, .ref 100), (1, .int x1), (2, .int x2), (3, .int x3)] []
  refine a_aload_n F 0 dX11_say_10 rfl rfl ?_
  refine a_iload_n F 2 dX11_say_11 rfl rfl ?_
  refine a_iload_n F 3 dX11_say_12 rfl rfl ?_
  refine a_callVX (b := 100) (As := [.int x2, .int x3]) (st := []) (ci := 11) F S T (c_11_checkDue (xl X) T.1 hP I A J hB x2 x3) ml_11_157 im_yX11_checkDue se_yX11_checkDue (by decide) (by decide) rfl (hB _ (by decide)) rfl rfl dX11_say_13 (by decide) (by omega) (by omega) (hl_r (hB _ (by decide)) (hl_i (hl_i (hl_i hl_nil)))) hs_nil (by rintro _ _ _ ⟨rfl, rfl, rfl, c⟩ _; exact e_3 c_1 c_2 c) ?_
  rintro _ _ _ ⟨rfl, rfl, rfl, c_3⟩ _
  show WA X (mC P O I A J) pl (k1 + 1 + 1 + 1) (k2 + 6 + 6 + 6) 16 [(0, .ref 100), (1, .int x1), (2, .int x2), (3, .int x3)] []
  refine a_iconst (v := (-1)) F dX11_say_16 (by decide) ?_
  refine a_istore F dX11_say_17 (by decide) rfl ?_
  refine a_aload_n F 1 dX11_say_19 rfl rfl ?_
  refine a_getr (b := 106) F fl_11_47 rfl (hB _ (by decide)) rfl ((hP 100 5 (by decide)).trans rfl) dX11_say_20 ?_
  refine a_iload_n F 2 dX11_say_23 rfl rfl ?_
  exact e_4 c_1 c_2 c_3

theorem r_11_say_27b {X : Ctx} {mc ms k1 k2 : Nat} (F : Fx X cX11_say RX11 5 18 mc ms) (S : SXX X) {Ψx : String → HS → List Nat → Prop} (T : Tx X mc ms Ψx) (hk1 : k1 + 6 ≤ mc) (hk2 : k2 + 36 ≤ ms) {Φ : Option Value → HS → List Nat → Prop} (E : Ex X (some .int) mc ms Φ) {P O : Nat → Nat → Option Nat} (hP : laP P) {I A : Nat → Nat → Int32} {J : Nat → Nat → Int64} {pl : List Nat} (hB : inB pl) {x1 x2 x3 x4 z9 : Int32}
    (e_1 : (z9 = 0) → (¬ (I 104 7) = 0) → Φ (some (.int ((-1) - (I 104 7)))) (mC P O (up2 I 120 1 0) A J) pl)
    (e_2 : (z9 = 0) → ((I 104 7) = 0) → Φ (some (.int x4)) (mC P O (up2 I 120 1 0) A J) pl)
    (e_3 : (¬ (z9 = 0)) → WA X (mC P O I A J) pl k1 k2 36 [(0, .ref 100), (1, .int x1), (2, .int x2), (3, .int x3), (4, .int x4)] [.int x3, .int x2, .ref 110]) :
    WA X (mC P O I A J) pl k1 k2 27 [(0, .ref 100), (1, .int x1), (2, .int x2), (3, .int x3), (4, .int x4)] [.int z9] := by
  refine a_if_eq (tgt := 89) F dX11_say_27 (by decide) (fun (c_4 : z9 = 0) => ?_) (fun (c_4 : ¬ (z9 = 0)) => ?_)
  · refine a_aload_n F 0 dX11_say_89 rfl rfl ?_
    refine a_getr (b := 120) F fl_11_10 rfl (hB _ (by decide)) rfl ((hP 100 0 (by decide)).trans rfl) dX11_say_90 ?_
    refine a_iconst (v := 0) F dX11_say_93 (by decide) ?_
    refine a_puti F fl_11_84 rfl rfl rfl rfl (hB _ (by decide)) rfl dX11_say_94 ?_
    refine a_aload_n F 0 dX11_say_97 rfl rfl ?_
    refine a_getr (b := 104) F fl_11_38 rfl (hB _ (by decide)) rfl ((hP 100 4 (by decide)).trans rfl) dX11_say_98 ?_
    refine a_geti F fl_11_120 rfl (hB _ (by decide)) rfl dX11_say_101 ?_
    refine a_if_ne (tgt := 112) F dX11_say_104 (by decide) (fun (c_5 : ¬ (I 104 7) = 0) => ?_) (fun (c_5 : (I 104 7) = 0) => ?_)
    · refine a_iconst (v := (-1)) F dX11_say_112 (by decide) ?_
      refine a_aload_n F 0 dX11_say_113 rfl rfl ?_
      refine a_getr (b := 104) F fl_11_38 rfl (hB _ (by decide)) rfl ((hP 100 4 (by decide)).trans rfl) dX11_say_114 ?_
      refine a_geti F fl_11_120 rfl (hB _ (by decide)) rfl dX11_say_117 ?_
      refine a_isub F dX11_say_120 ?_
      exact a_iret F E dX11_say_121 (by omega) (by omega) (e_1 c_4 c_5)
    · refine a_iload F 4 dX11_say_107 rfl ?_
      refine a_goto (tgt := 121) F dX11_say_109 (by decide) ?_
      exact a_iret F E dX11_say_121 (by omega) (by omega) (e_2 c_4 c_5)
  · refine a_aload_n F 0 dX11_say_30 rfl rfl ?_
    refine a_getr (b := 110) F fl_11_56 rfl (hB _ (by decide)) rfl ((hP 100 6 (by decide)).trans rfl) dX11_say_31 ?_
    refine a_iload_n F 2 dX11_say_34 rfl rfl ?_
    refine a_iload_n F 3 dX11_say_35 rfl rfl ?_
    exact e_3 c_4

theorem r_11_say_39c {X : Ctx} {mc ms k1 k2 : Nat} (F : Fx X cX11_say RX11 5 18 mc ms) (S : SXX X) {Ψx : String → HS → List Nat → Prop} (T : Tx X mc ms Ψx) (hk1 : k1 + 6 ≤ mc) (hk2 : k2 + 36 ≤ ms) {P O : Nat → Nat → Option Nat} (hP : laP P) {I A : Nat → Nat → Int32} {J : Nat → Nat → Int64} {pl : List Nat} (hB : inB pl) {x1 x2 x3 x4 : Int32}
    (e_1 : WA X (mC P O I A J) pl k1 k2 49 [(0, .ref 100), (1, .int x1), (2, .int x2), (3, .int x3), (4, .int x4)] [.int x3, .int x2, .ref 106, .ref 110]) :
    WA X (mC P O I A J) pl k1 k2 39 [(0, .ref 100), (1, .int x1), (2, .int x2), (3, .int x3), (4, .int x4)] [] := by
  refine a_aload_n F 0 dX11_say_39 rfl rfl ?_
  refine a_getr (b := 110) F fl_11_56 rfl (hB _ (by decide)) rfl ((hP 100 6 (by decide)).trans rfl) dX11_say_40 ?_
  refine a_aload_n F 0 dX11_say_43 rfl rfl ?_
  refine a_getr (b := 106) F fl_11_47 rfl (hB _ (by decide)) rfl ((hP 100 5 (by decide)).trans rfl) dX11_say_44 ?_
  refine a_iload_n F 2 dX11_say_47 rfl rfl ?_
  refine a_iload_n F 3 dX11_say_48 rfl rfl ?_
  exact e_1

theorem r_11_say_52d {X : Ctx} {mc ms k1 k2 : Nat} (F : Fx X cX11_say RX11 5 18 mc ms) (S : SXX X) {Ψx : String → HS → List Nat → Prop} (T : Tx X mc ms Ψx) (hk1 : k1 + 6 ≤ mc) (hk2 : k2 + 36 ≤ ms) {Φ : Option Value → HS → List Nat → Prop} (E : Ex X (some .int) mc ms Φ) {P O : Nat → Nat → Option Nat} (hP : laP P) {I A : Nat → Nat → Int32} {J : Nat → Nat → Int64} {pl : List Nat} (hB : inB pl) {x1 x2 x3 x4 z9 : Int32}
    (e_1 : (¬ z9 = (-1)) → (¬ (I 110 8) = 0) → (¬ (I 104 7) = 0) → Φ (some (.int ((-1) - (I 104 7)))) (mC P O (up2 I 120 1 0) A J) pl)
    (e_2 : (¬ z9 = (-1)) → (¬ (I 110 8) = 0) → ((I 104 7) = 0) → Φ (some (.int z9)) (mC P O (up2 I 120 1 0) A J) pl)
    (e_3 : (¬ z9 = (-1)) → ((I 110 8) = 0) → (¬ ((up2 (up2 I 104 7 (4 : Int32)) 104 8 (I 104 1)) 104 7) = 0) → Φ (some (.int ((-1) - ((up2 (up2 I 104 7 (4 : Int32)) 104 8 (I 104 1)) 104 7)))) (mC P O (up2 (up2 (up2 I 104 7 (4 : Int32)) 104 8 (I 104 1)) 120 1 0) A J) pl)
    (e_4 : (¬ z9 = (-1)) → ((I 110 8) = 0) → (((up2 (up2 I 104 7 (4 : Int32)) 104 8 (I 104 1)) 104 7) = 0) → Φ (some (.int z9)) (mC P O (up2 (up2 (up2 I 104 7 (4 : Int32)) 104 8 (I 104 1)) 120 1 0) A J) pl)
    (e_5 : (z9 = (-1)) → (¬ ((up2 (up2 I 104 7 (3 : Int32)) 104 8 (I 104 1)) 104 7) = 0) → Φ (some (.int ((-1) - ((up2 (up2 I 104 7 (3 : Int32)) 104 8 (I 104 1)) 104 7)))) (mC P O (up2 (up2 (up2 I 104 7 (3 : Int32)) 104 8 (I 104 1)) 120 1 0) A J) pl)
    (e_6 : (z9 = (-1)) → (((up2 (up2 I 104 7 (3 : Int32)) 104 8 (I 104 1)) 104 7) = 0) → Φ (some (.int z9)) (mC P O (up2 (up2 (up2 I 104 7 (3 : Int32)) 104 8 (I 104 1)) 120 1 0) A J) pl) :
    WA X (mC P O I A J) pl k1 k2 52 [(0, .ref 100), (1, .int x1), (2, .int x2), (3, .int x3), (4, .int x4)] [.int z9] := by
  refine a_istore F dX11_say_52 (by decide) rfl ?_
  refine a_iload F 0 dX11_say_54 rfl ?_
  refine a_iconst (v := (-1)) F dX11_say_56 (by decide) ?_
  refine a_icmp_ne (tgt := 71) F dX11_say_57 (by decide) (fun (c_6 : ¬ z9 = (-1)) => ?_) (fun (c_6 : z9 = (-1)) => ?_)
  · refine a_aload_n F 1 dX11_say_71 rfl rfl ?_
    refine a_getr (b := 110) F fl_11_56 rfl (hB _ (by decide)) rfl ((hP 100 6 (by decide)).trans rfl) dX11_say_72 ?_
    refine a_geti F fl_11_189 rfl (hB _ (by decide)) rfl dX11_say_75 ?_
    refine a_if_ne (tgt := 89) F dX11_say_78 (by decide) (fun (c_7 : ¬ (I 110 8) = 0) => ?_) (fun (c_7 : (I 110 8) = 0) => ?_)
    · refine a_aload_n F 1 dX11_say_89 rfl rfl ?_
      refine a_getr (b := 120) F fl_11_10 rfl (hB _ (by decide)) rfl ((hP 100 0 (by decide)).trans rfl) dX11_say_90 ?_
      refine a_iconst (v := 0) F dX11_say_93 (by decide) ?_
      refine a_puti F fl_11_84 rfl rfl rfl rfl (hB _ (by decide)) rfl dX11_say_94 ?_
      refine a_aload_n F 1 dX11_say_97 rfl rfl ?_
      refine a_getr (b := 104) F fl_11_38 rfl (hB _ (by decide)) rfl ((hP 100 4 (by decide)).trans rfl) dX11_say_98 ?_
      refine a_geti F fl_11_120 rfl (hB _ (by decide)) rfl dX11_say_101 ?_
      refine a_if_ne (tgt := 112) F dX11_say_104 (by decide) (fun (c_8 : ¬ (I 104 7) = 0) => ?_) (fun (c_8 : (I 104 7) = 0) => ?_)
      · refine a_iconst (v := (-1)) F dX11_say_112 (by decide) ?_
        refine a_aload_n F 1 dX11_say_113 rfl rfl ?_
        refine a_getr (b := 104) F fl_11_38 rfl (hB _ (by decide)) rfl ((hP 100 4 (by decide)).trans rfl) dX11_say_114 ?_
        refine a_geti F fl_11_120 rfl (hB _ (by decide)) rfl dX11_say_117 ?_
        refine a_isub F dX11_say_120 ?_
        exact a_iret F E dX11_say_121 (by omega) (by omega) (e_1 c_6 c_7 c_8)
      · refine a_iload F 0 dX11_say_107 rfl ?_
        refine a_goto (tgt := 121) F dX11_say_109 (by decide) ?_
        exact a_iret F E dX11_say_121 (by omega) (by omega) (e_2 c_6 c_7 c_8)
    · refine a_aload_n F 1 dX11_say_81 rfl rfl ?_
      refine a_getr (b := 104) F fl_11_38 rfl (hB _ (by decide)) rfl ((hP 100 4 (by decide)).trans rfl) dX11_say_82 ?_
      refine a_iconst (v := 4) F dX11_say_85 (by decide) ?_
      refine a_callV (b := 104) (As := [.int 4]) (st := []) (ci := 5) F (c_5_failAtEnd (xl X) hP I A J hB (4 : Int32)) ml_11_186 im_yX5_failAtEnd se_yX5_failAtEnd (by decide) (by decide) rfl (hB _ (by decide)) rfl rfl dX11_say_86 (by decide) (by omega) (by omega) (hl_i (hl_r (hB _ (by decide)) (hl_i (hl_i (hl_i hl_nil))))) hs_nil ?_
      rintro _ _ _ ⟨rfl, rfl, rfl⟩ _
      show WA X (mC P O (up2 (up2 I 104 7 (4 : Int32)) 104 8 (I 104 1)) A J) pl k1 k2 89 [(4, .int z9), (0, .ref 100), (1, .int x1), (2, .int x2), (3, .int x3)] []
      refine a_aload_n F 1 dX11_say_89 rfl rfl ?_
      refine a_getr (b := 120) F fl_11_10 rfl (hB _ (by decide)) rfl ((hP 100 0 (by decide)).trans rfl) dX11_say_90 ?_
      refine a_iconst (v := 0) F dX11_say_93 (by decide) ?_
      refine a_puti F fl_11_84 rfl rfl rfl rfl (hB _ (by decide)) rfl dX11_say_94 ?_
      refine a_aload_n F 1 dX11_say_97 rfl rfl ?_
      refine a_getr (b := 104) F fl_11_38 rfl (hB _ (by decide)) rfl ((hP 100 4 (by decide)).trans rfl) dX11_say_98 ?_
      refine a_geti F fl_11_120 rfl (hB _ (by decide)) rfl dX11_say_101 ?_
      refine a_if_ne (tgt := 112) F dX11_say_104 (by decide) (fun (c_9 : ¬ ((up2 (up2 I 104 7 (4 : Int32)) 104 8 (I 104 1)) 104 7) = 0) => ?_) (fun (c_9 : ((up2 (up2 I 104 7 (4 : Int32)) 104 8 (I 104 1)) 104 7) = 0) => ?_)
      · refine a_iconst (v := (-1)) F dX11_say_112 (by decide) ?_
        refine a_aload_n F 1 dX11_say_113 rfl rfl ?_
        refine a_getr (b := 104) F fl_11_38 rfl (hB _ (by decide)) rfl ((hP 100 4 (by decide)).trans rfl) dX11_say_114 ?_
        refine a_geti F fl_11_120 rfl (hB _ (by decide)) rfl dX11_say_117 ?_
        refine a_isub F dX11_say_120 ?_
        exact a_iret F E dX11_say_121 (by omega) (by omega) (e_3 c_6 c_7 c_9)
      · refine a_iload F 0 dX11_say_107 rfl ?_
        refine a_goto (tgt := 121) F dX11_say_109 (by decide) ?_
        exact a_iret F E dX11_say_121 (by omega) (by omega) (e_4 c_6 c_7 c_9)
  · refine a_aload_n F 1 dX11_say_60 rfl rfl ?_
    refine a_getr (b := 104) F fl_11_38 rfl (hB _ (by decide)) rfl ((hP 100 4 (by decide)).trans rfl) dX11_say_61 ?_
    refine a_iconst (v := 3) F dX11_say_64 (by decide) ?_
    refine a_callV (b := 104) (As := [.int 3]) (st := []) (ci := 5) F (c_5_failAtEnd (xl X) hP I A J hB (3 : Int32)) ml_11_186 im_yX5_failAtEnd se_yX5_failAtEnd (by decide) (by decide) rfl (hB _ (by decide)) rfl rfl dX11_say_65 (by decide) (by omega) (by omega) (hl_i (hl_r (hB _ (by decide)) (hl_i (hl_i (hl_i hl_nil))))) hs_nil ?_
    rintro _ _ _ ⟨rfl, rfl, rfl⟩ _
    show WA X (mC P O (up2 (up2 I 104 7 (3 : Int32)) 104 8 (I 104 1)) A J) pl k1 k2 68 [(4, .int z9), (0, .ref 100), (1, .int x1), (2, .int x2), (3, .int x3)] []
    refine a_goto (tgt := 89) F dX11_say_68 (by decide) ?_
    refine a_aload_n F 1 dX11_say_89 rfl rfl ?_
    refine a_getr (b := 120) F fl_11_10 rfl (hB _ (by decide)) rfl ((hP 100 0 (by decide)).trans rfl) dX11_say_90 ?_
    refine a_iconst (v := 0) F dX11_say_93 (by decide) ?_
    refine a_puti F fl_11_84 rfl rfl rfl rfl (hB _ (by decide)) rfl dX11_say_94 ?_
    refine a_aload_n F 1 dX11_say_97 rfl rfl ?_
    refine a_getr (b := 104) F fl_11_38 rfl (hB _ (by decide)) rfl ((hP 100 4 (by decide)).trans rfl) dX11_say_98 ?_
    refine a_geti F fl_11_120 rfl (hB _ (by decide)) rfl dX11_say_101 ?_
    refine a_if_ne (tgt := 112) F dX11_say_104 (by decide) (fun (c_10 : ¬ ((up2 (up2 I 104 7 (3 : Int32)) 104 8 (I 104 1)) 104 7) = 0) => ?_) (fun (c_10 : ((up2 (up2 I 104 7 (3 : Int32)) 104 8 (I 104 1)) 104 7) = 0) => ?_)
    · refine a_iconst (v := (-1)) F dX11_say_112 (by decide) ?_
      refine a_aload_n F 1 dX11_say_113 rfl rfl ?_
      refine a_getr (b := 104) F fl_11_38 rfl (hB _ (by decide)) rfl ((hP 100 4 (by decide)).trans rfl) dX11_say_114 ?_
      refine a_geti F fl_11_120 rfl (hB _ (by decide)) rfl dX11_say_117 ?_
      refine a_isub F dX11_say_120 ?_
      exact a_iret F E dX11_say_121 (by omega) (by omega) (e_5 c_6 c_10)
    · refine a_iload F 0 dX11_say_107 rfl ?_
      refine a_goto (tgt := 121) F dX11_say_109 (by decide) ?_
      exact a_iret F E dX11_say_121 (by omega) (by omega) (e_6 c_6 c_10)

set_option maxRecDepth 10000 in
theorem c_11_say (l : Launch) (hst : l.stackTraces = false) {P O : Nat → Nat → Option Nat} (hP : laP P) (I A : Nat → Nat → Int32) (J : Nat → Nat → Int64) {pl : List Nat} (hB : inB pl) (x a b : Int32) (sz : Nat) (hsz : sz ≤ 400) (h3 : I 120 1 = nI sz) {m g : Nat} {B : Nat → Nat} (hm : m ≤ 1) (hok : okB B) (hC : clC P O pl) (hr : rtP P pl g) (hb : bdR (A 131) 0 B) (hI : I 130 1 = nI m) : ConX l 18 yX11_say cX11_say 5 (some .int) [.ref 100, .int x, .int a, .int b] (mC P O I A J) pl (12 + gN ((((0 ≤ x ∧ x ≤ I 120 1) ∧ ((1 ≤ a ∧ a ≤ 6) ∧ (1 ≤ b ∧ b ≤ 6))) ∧ (undC I → dueC I a b)) ∧ ∃ mv, movesF (A 121) x.toNatClampNeg 9 mv0 (endT bBl (A 121) x.toNatClampNeg 0) = .ok mv) (2 * ((wkF m (min a.toNatClampNeg b.toNatClampNeg) (max a.toNatClampNeg b.toNatClampNeg) B g).2.2.2.2 - g))) (100 + gN ((((0 ≤ x ∧ x ≤ I 120 1) ∧ ((1 ≤ a ∧ a ≤ 6) ∧ (1 ≤ b ∧ b ≤ 6))) ∧ (undC I → dueC I a b)) ∧ ∃ mv, movesF (A 121) x.toNatClampNeg 9 mv0 (endT bBl (A 121) x.toNatClampNeg 0) = .ok mv) (576 * (2 ^ (wkF m (min a.toNatClampNeg b.toNatClampNeg) (max a.toNatClampNeg b.toNatClampNeg) B g).2.2.2.2 - 2 ^ g))) (fun r σ' pl' => ((0 ≤ x ∧ x ≤ I 120 1) ∧ ((1 ≤ a ∧ a ≤ 6) ∧ (1 ≤ b ∧ b ≤ 6))) ∧ (undC I → dueC I a b) ∧ sayC P O I A J pl x.toNatClampNeg m a.toNatClampNeg b.toNatClampNeg B (wkF m (min a.toNatClampNeg b.toNatClampNeg) (max a.toNatClampNeg b.toNatClampNeg) B g) (movesF (A 121) x.toNatClampNeg 9 mv0 (endT bBl (A 121) x.toNatClampNeg 0)) r σ' pl') (fun E σ' pl' => σ' = mC P O I A J ∧ pl = pl' ∧ ((E = "java/lang/IllegalArgumentException" ∧ ¬ ((0 ≤ x ∧ x ≤ I 120 1) ∧ ((1 ≤ a ∧ a ≤ 6) ∧ (1 ≤ b ∧ b ≤ 6)))) ∨ (E = "java/lang/IllegalStateException" ∧ ((0 ≤ x ∧ x ≤ I 120 1) ∧ ((1 ≤ a ∧ a ≤ 6) ∧ (1 ≤ b ∧ b ≤ 6))) ∧ ¬ (undC I → dueC I a b)))) := by
  refine ConX.of hst (by decide) (Nat.le_of_ble_eq_true rfl) (fun X hX9 hn9 F E S T => ?_)
  refine r_11_say_0 F S T (by omega) (by omega) hP hB (fun h => ⟨rfl, rfl, Or.inl ⟨rfl, fun z => h z.1⟩⟩) (fun h1 h2 => ⟨rfl, rfl, Or.inl ⟨rfl, fun z => h2 z.2⟩⟩) (fun h1 h2 h3 => ⟨rfl, rfl, Or.inr ⟨rfl, ⟨h1, h2⟩, h3⟩⟩) (fun g1 g2 g3 => ?_)
  obtain ⟨n, hnt, em⟩ := nI_of2 (x := x) (M := nI sz) (n := sz) (nI_toInt (by omega)) (by grind) (by rw [← h3]; grind)
  subst em
  have en : (nI n).toNatClampNeg = n := nI_clamp (by omega)
  obtain ⟨u, v, rfl, rfl, hu, hv⟩ := dice_n g2
  have eu : (nI u).toNatClampNeg = u := nI_clamp (by omega)
  have ev : (nI v).toNatClampNeg = v := nI_clamp (by omega)
  rw [eu, ev, en] at F E T
  refine a_callV (b := 106) (As := [.int (nI n)]) (st := []) (ci := 9) F (c_9_parseMoves (xl X) hP I A J hB n sz hnt hsz h3) ml_11_179 im_yX9_parseMoves se_yX9_parseMoves (by decide) (by decide) rfl (hB _ (by decide)) rfl rfl dX11_say_24 (by decide) (by omega) (by omega) (hl_i (hl_r (hB _ (by decide)) (hl_i (hl_i (hl_i hl_nil))))) hs_nil ?_
  rintro r1 σ1 pl1 ⟨rfl, I1, A1, rfl, hF1, hA1, hmm⟩ _
  refine a_sub [1, 2, 3, 4, 0] rfl ?_
  have E' := E.imp (Ψ := sayC P O I A J pl n m u v B (wkF m (min u v) (max u v) B g) (movesF (A 121) n 9 mv0 (endT bBl (A 121) n 0))) (fun r σ' pl' h => ⟨⟨g1, g2⟩, g3, h⟩)
  clear E
  generalize movesF (A 121) n 9 mv0 (endT bBl (A 121) n 0) = res at hmm E' F T
  cases res with
  | error fp =>
    obtain ⟨rfl, h7, h8⟩ := hmm
    refine r_11_say_27b F S T (by omega) (by omega) E' hP hB (fun _ z => ⟨I1, A1, hF1, hA1, h7, h8, rfl, rfl, ?_⟩) (fun _ z => ⟨I1, A1, hF1, hA1, h7, h8, rfl, rfl, ?_⟩) (fun z => absurd rfl z)
    · rw [h7] at z ⊢; rw [if_neg z]
    · rw [h7] at z; rw [if_pos z]
  | ok mv =>
    obtain ⟨rfl, h1n, h7, h8, hmv⟩ := hmm
    rw [gN_t ⟨⟨⟨g1, g2⟩, g3⟩, mv, rfl⟩, gN_t ⟨⟨⟨g1, g2⟩, g3⟩, mv, rfl⟩] at F E' T
    refine r_11_say_27b F S T (by omega) (by omega) E' hP hB (fun z => absurd z (by decide)) (fun z => absurd z (by decide)) (fun _ => ?_)
    have hb1 : bdR (A1 131) 0 B := by rw [hA1 131 (by decide) (by decide) (by decide)]; exact hb
    have hI1 : I1 130 1 = nI m := by rw [hF1 130 1 (by omega) (by decide) (by decide)]; exact hI
    refine a_callV (b := 110) (As := [.int (nI u), .int (nI v)]) (st := []) (ci := 6) F (c_6_workOut (xl X) hP I1 A1 J hB m u v g B hm hu hv hok hC hr hb1 hI1) ml_11_160 im_yX6_workOut se_yX6_workOut (by decide) (by decide) rfl (hB _ (by decide)) rfl rfl dX11_say_36 (by decide) (by omega) (by omega) (hl_r (hB _ (by decide)) (hl_i (hl_i (hl_i (hl_i hl_nil))))) hs_nil ?_
    rintro r2 σ2 pl2 ⟨rfl, P2, I2, A2, J2, rfl, hz, hC2, ht2, hb2⟩ _
    have hP2 := hz.la hP
    have hB2 := hz.b hB
    refine r_11_say_39c F S T (by omega) (by omega) hP2 hB2 ?_
    obtain ⟨S9, hw9, -⟩ := wk_I (g := g) hm (show 1 ≤ min u v ∧ min u v ≤ 6 by omega) (show 1 ≤ max u v ∧ max u v ≤ 6 by omega) hok
    have hmv2 : mvC I2 A2 mv := hmv.cg (hz.2.1 106 5 (by omega)) (hz.2.2.1 107 (by decide) (by omega)) (hz.2.2.1 108 (by decide) (by omega)) (hz.2.2.1 109 (by decide) (by omega))
    have hI2 : I2 130 1 = nI m := by rw [hz.2.1 130 1 (by omega)]; exact hI1
    refine a_callV (b := 110) (As := [.ref 106, .int (nI u), .int (nI v)]) (st := []) (ci := 6) F (c_6_numberOf (xl X) hP2 I2 A2 J2 hB2 m u v mv B (wkF m (min u v) (max u v) B g) hm hu hv hok ht2 hw9 hmv2 hb2 hI2) ml_11_182 im_yX6_numberOf se_yX6_numberOf (by decide) (by decide) rfl (hB2 _ (by decide)) rfl rfl dX11_say_49 (by decide) (by omega) (by omega) (hl_r (hB2 _ (by decide)) (hl_i (hl_i (hl_i (hl_i hl_nil))))) hs_nil ?_
    rintro r3 σ3 pl3 hn3 _
    have hn3' := hn3
    obtain ⟨rfl, I3, A3, J3, rfl, hI3, hA3, hJ3, hb3, hn⟩ := hn3
    obtain ⟨w, rfl⟩ : ∃ w, r3 = some (.int w) := by
      obtain ⟨q1, q2, q3⟩ := hn
      by_cases c1 : goodM m u v mv B (wkF m (min u v) (max u v) B g).1
      · exact ⟨_, (q2 c1).1⟩
      · by_cases c2 : u = v ∨ ¬ goodM m v u mv B (wkF m (min u v) (max u v) B g).1
        · exact ⟨_, q1 c1 c2⟩
        · exact ⟨_, (q3 c1 (fun z => c2 (Or.inl z)) (Classical.byContradiction (fun z => c2 (Or.inr z)))).1⟩
    have e1 : I3 104 1 = nI n := by rw [hI3 104 1 (by omega), hz.2.1 104 1 (by omega)]; exact h1n
    have e7 : I3 104 7 = 0 := by rw [hI3 104 7 (by omega), hz.2.1 104 7 (by omega)]; exact h7
    have fin : ∀ r σ', ((w = -1 ∧ r = some (Value.int (-4)) ∧ σ' = mC P2 O (up2 (up2 (up2 I3 104 7 3) 104 8 (nI n)) 120 1 0) A3 J3) ∨ (¬ w = -1 ∧ I3 110 8 = 0 ∧ r = some (Value.int (-5)) ∧ σ' = mC P2 O (up2 (up2 (up2 I3 104 7 4) 104 8 (nI n)) 120 1 0) A3 J3) ∨ (¬ w = -1 ∧ ¬ I3 110 8 = 0 ∧ r = some (Value.int w) ∧ σ' = mC P2 O (up2 I3 120 1 0) A3 J3)) → sayC P O I A J pl n m u v B (wkF m (min u v) (max u v) B g) (.ok mv) r σ' pl2 := fun r σ' h => ⟨I1, A1, hF1, hA1, h1n, h7, h8, hmv, P2, I2, A2, J2, ⟨rfl, P2, I2, A2, J2, rfl, hz, hC2, ht2, hb2⟩, w, I3, A3, J3, hn3', h⟩
    refine r_11_say_52d F S T (by omega) (by omega) E' hP2 hB2 (fun c1 c2 c3 => absurd e7 c3) (fun c1 c2 c3 => fin _ _ (Or.inr (Or.inr ⟨c1, c2, rfl, rfl⟩))) (fun c1 c2 c3 => fin _ _ (Or.inr (Or.inl ⟨c1, c2, by rw [up2_k (by decide), up2_s, show (-1 : Int32) - 4 = -5 from by decide], by rw [e1]⟩))) (fun c1 c2 c3 => absurd c3 (by rw [up2_k (by decide), up2_s]; decide)) (fun c1 c3 => fin _ _ (Or.inl ⟨c1, by rw [up2_k (by decide), up2_s, show (-1 : Int32) - 3 = -4 from by decide], by rw [e1]⟩)) (fun c1 c3 => absurd c3 (by rw [up2_k (by decide), up2_s]; decide))
