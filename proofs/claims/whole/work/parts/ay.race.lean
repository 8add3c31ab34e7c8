/-! public method: race -/
theorem sure_w {s : Nat} (hs : stnd s) : (lN (wN 12 s) = lN (36 ^ 12)) ↔ wN 12 s = 36 ^ 12 := lN_inj (wN_63 hs (by decide)) (by decide)
theorem r_11_race_0 {X : Ctx} {mc ms k1 k2 : Nat} (F : Fx X cX11_race RX11 3 18 mc ms) (S : SXX X) {Ψx : String → HS → List Nat → Prop} (T : Tx X mc ms Ψx) (hk1 : k1 + 6 ≤ mc) (hk2 : k2 + 36 ≤ ms) {P O : Nat → Nat → Option Nat} (hP : laP P) {I A : Nat → Nat → Int32} {J : Nat → Nat → Int64} {pl : List Nat} (hB : inB pl) {x1 x2 : Int32}
    (e_1 : ¬ (stdI x1) → Ψx "java/lang/IllegalArgumentException" (mC P O I A J) pl)
    (e_2 : (stdI x1) → ¬ (stdI x2) → Ψx "java/lang/IllegalArgumentException" (mC P O I A J) pl)
    (o_3 : (stdI x1) → (stdI x2) → stdI x1)
    (e_4 : (stdI x1) → (stdI x2) → ¬ (nI (pipS x1.toNatClampNeg) ≤ (I 100 10)) → Ψx "java/lang/IllegalStateException" (mC P O I A J) pl)
    (o_5 : (stdI x1) → (stdI x2) → (nI (pipS x1.toNatClampNeg) ≤ (I 100 10)) → stdI x2)
    (e_6 : (stdI x1) → (stdI x2) → (nI (pipS x1.toNatClampNeg) ≤ (I 100 10)) → ¬ (nI (pipS x2.toNatClampNeg) ≤ (I 100 10)) → Ψx "java/lang/IllegalStateException" (mC P O I A J) pl)
    (e_7 : (stdI x1) → (stdI x2) → (nI (pipS x1.toNatClampNeg) ≤ (I 100 10)) → (nI (pipS x2.toNatClampNeg) ≤ (I 100 10)) → WA X (mC P O I A J) pl (k1 + 1 + 1 + 1 + 1) (k2 + 6 + 6 + 6 + 6) 23 [(0, .ref 100), (1, .int x1), (2, .int x2)] [.int x1, .ref 116]) :
    WA X (mC P O I A J) pl k1 k2 0 [(0, .ref 100), (1, .int x1), (2, .int x2)] [] := by
  refine a_iload_n F 1 dX11_race_0 rfl rfl ?_
  refine a_callSX (As := [.int x1]) (st := []) F S T (c_11_checkStand (xl X) T.1 hP I A J hB x1) ml_11_244 sm_yX11_checkStand (by decide) rfl dX11_race_1 (by decide) (by omega) (by omega) (hl_r (hB _ (by decide)) (hl_i (hl_i hl_nil))) hs_nil (by rintro _ _ _ ⟨rfl, rfl, rfl, c⟩ _; exact e_1 c) ?_
  rintro _ _ _ ⟨rfl, rfl, rfl, c_1⟩ _
  show WA X (mC P O I A J) pl (k1 + 1) (k2 + 6) 4 [(0, .ref 100), (1, .int x1), (2, .int x2)] []
  refine a_iload_n F 2 dX11_race_4 rfl rfl ?_
  refine a_callSX (As := [.int x2]) (st := []) F S T (c_11_checkStand (xl X) T.1 hP I A J hB x2) ml_11_244 sm_yX11_checkStand (by decide) rfl dX11_race_5 (by decide) (by omega) (by omega) (hl_r (hB _ (by decide)) (hl_i (hl_i hl_nil))) hs_nil (by rintro _ _ _ ⟨rfl, rfl, rfl, c⟩ _; exact e_2 c_1 c) ?_
  rintro _ _ _ ⟨rfl, rfl, rfl, c_2⟩ _
  show WA X (mC P O I A J) pl (k1 + 1 + 1) (k2 + 6 + 6) 8 [(0, .ref 100), (1, .int x1), (2, .int x2)] []
  refine a_aload_n F 0 dX11_race_8 rfl rfl ?_
  refine a_iload_n F 1 dX11_race_9 rfl rfl ?_
  refine a_callVX (b := 100) (As := [.int x1]) (st := []) (ci := 11) F S T (c_11_checkKnownI (xl X) T.1 hP I A J hB x1 (o_3 c_1 c_2)) ml_11_247 im_yX11_checkKnown se_yX11_checkKnown (by decide) (by decide) rfl (hB _ (by decide)) rfl rfl dX11_race_10 (by decide) (by omega) (by omega) (hl_r (hB _ (by decide)) (hl_i (hl_i hl_nil))) hs_nil (by rintro _ _ _ ⟨rfl, rfl, rfl, c⟩ _; exact e_4 c_1 c_2 c) ?_
  rintro _ _ _ ⟨rfl, rfl, rfl, c_3⟩ _
  show WA X (mC P O I A J) pl (k1 + 1 + 1 + 1) (k2 + 6 + 6 + 6) 13 [(0, .ref 100), (1, .int x1), (2, .int x2)] []
  refine a_aload_n F 0 dX11_race_13 rfl rfl ?_
  refine a_iload_n F 2 dX11_race_14 rfl rfl ?_
  refine a_callVX (b := 100) (As := [.int x2]) (st := []) (ci := 11) F S T (c_11_checkKnownI (xl X) T.1 hP I A J hB x2 (o_5 c_1 c_2 c_3)) ml_11_247 im_yX11_checkKnown se_yX11_checkKnown (by decide) (by decide) rfl (hB _ (by decide)) rfl rfl dX11_race_15 (by decide) (by omega) (by omega) (hl_r (hB _ (by decide)) (hl_i (hl_i hl_nil))) hs_nil (by rintro _ _ _ ⟨rfl, rfl, rfl, c⟩ _; exact e_6 c_1 c_2 c_3 c) ?_
  rintro _ _ _ ⟨rfl, rfl, rfl, c_4⟩ _
  show WA X (mC P O I A J) pl (k1 + 1 + 1 + 1 + 1) (k2 + 6 + 6 + 6 + 6) 18 [(0, .ref 100), (1, .int x1), (2, .int x2)] []
  refine a_aload_n F 0 dX11_race_18 rfl rfl ?_
  refine a_getr (b := 116) F fl_11_70 rfl (hB _ (by decide)) rfl ((hP 100 8 (by decide)).trans rfl) dX11_race_19 ?_
  refine a_iload_n F 1 dX11_race_22 rfl rfl ?_
  exact e_7 c_1 c_2 c_3 c_4

theorem r_11_race_26b {X : Ctx} {mc ms k1 k2 : Nat} (F : Fx X cX11_race RX11 3 18 mc ms) (S : SXX X) {Ψx : String → HS → List Nat → Prop} (T : Tx X mc ms Ψx) (hk1 : k1 + 6 ≤ mc) (hk2 : k2 + 36 ≤ ms) {P O : Nat → Nat → Option Nat} (hP : laP P) {I A : Nat → Nat → Int32} {J : Nat → Nat → Int64} {pl : List Nat} (hB : inB pl) {x1 x2 : Int32}
    (e_1 : WA X (mC P O I A J) pl k1 k2 31 [(0, .ref 100), (1, .int x1), (2, .int x2)] [.int x2, .ref 116]) :
    WA X (mC P O I A J) pl k1 k2 26 [(0, .ref 100), (1, .int x1), (2, .int x2)] [] := by
  refine a_aload_n F 0 dX11_race_26 rfl rfl ?_
  refine a_getr (b := 116) F fl_11_70 rfl (hB _ (by decide)) rfl ((hP 100 8 (by decide)).trans rfl) dX11_race_27 ?_
  refine a_iload_n F 2 dX11_race_30 rfl rfl ?_
  exact e_1

theorem r_11_race_34c {X : Ctx} {mc ms k1 k2 : Nat} (F : Fx X cX11_race RX11 3 18 mc ms) (S : SXX X) {Ψx : String → HS → List Nat → Prop} (T : Tx X mc ms Ψx) (hk1 : k1 + 6 ≤ mc) (hk2 : k2 + 36 ≤ ms) {P O : Nat → Nat → Option Nat} (hP : laP P) {I A : Nat → Nat → Int32} {J : Nat → Nat → Int64} {pl : List Nat} (hB : inB pl) {x1 x2 : Int32}
    (e_1 : WA X (mC P O I A J) pl k1 k2 39 [(0, .ref 100), (1, .int x1), (2, .int x2)] [.int x1, .ref 116]) :
    WA X (mC P O I A J) pl k1 k2 34 [(0, .ref 100), (1, .int x1), (2, .int x2)] [] := by
  refine a_aload_n F 0 dX11_race_34 rfl rfl ?_
  refine a_getr (b := 116) F fl_11_70 rfl (hB _ (by decide)) rfl ((hP 100 8 (by decide)).trans rfl) dX11_race_35 ?_
  refine a_iload_n F 1 dX11_race_38 rfl rfl ?_
  exact e_1

theorem r_11_race_42d {X : Ctx} {mc ms k1 k2 : Nat} (F : Fx X cX11_race RX11 3 18 mc ms) (S : SXX X) {Ψx : String → HS → List Nat → Prop} (T : Tx X mc ms Ψx) (hk1 : k1 + 6 ≤ mc) (hk2 : k2 + 36 ≤ ms) {P O : Nat → Nat → Option Nat} (hP : laP P) {I A : Nat → Nat → Int32} {J : Nat → Nat → Int64} {pl : List Nat} (hB : inB pl) {x1 x2 z9 : Int32}
    (e_1 : (z9 = 0) → Ψx "java/lang/IllegalStateException" (mC P O I A J) pl)
    (e_2 : (¬ (z9 = 0)) → WA X (mC P O I A J) pl k1 k2 50 [(0, .ref 100), (1, .int x1), (2, .int x2)] [.int x2, .ref 116]) :
    WA X (mC P O I A J) pl k1 k2 42 [(0, .ref 100), (1, .int x1), (2, .int x2)] [.int z9] := by
  refine a_if_eq (tgt := 56) F dX11_race_42 (by decide) (fun (c_5 : z9 = 0) => ?_) (fun (c_5 : ¬ (z9 = 0)) => ?_)
  · exact a_throwSW F S T (TW.m103 (List.mem_of_getElem? (i := 16) rfl)) (by decide) dX11_race_56 dX11_race_59 dX11_race_60 dX11_race_63 dX11_race_66 (by omega) (by omega) (by decide) (e_1 c_5)
  · refine a_aload_n F 0 dX11_race_45 rfl rfl ?_
    refine a_getr (b := 116) F fl_11_70 rfl (hB _ (by decide)) rfl ((hP 100 8 (by decide)).trans rfl) dX11_race_46 ?_
    refine a_iload_n F 2 dX11_race_49 rfl rfl ?_
    exact e_2 c_5

theorem r_11_race_53e {X : Ctx} {mc ms k1 k2 : Nat} (F : Fx X cX11_race RX11 3 18 mc ms) (S : SXX X) {Ψx : String → HS → List Nat → Prop} (T : Tx X mc ms Ψx) (hk1 : k1 + 6 ≤ mc) (hk2 : k2 + 36 ≤ ms) {P O : Nat → Nat → Option Nat} (hP : laP P) {I A : Nat → Nat → Int32} {J : Nat → Nat → Int64} {pl : List Nat} (hB : inB pl) {x1 x2 z9 : Int32}
    (e_1 : (¬ z9 = 0) → (¬ x1 = 0) → WA X (mC P O I A J) pl k1 k2 99 [(0, .ref 100), (1, .int x1), (2, .int x2)] [.ref 142, .int x2, .int x1, .ref 116])
    (e_2 : (¬ z9 = 0) → (x1 = 0) → (¬ x2 = 0) → WA X (mC P O I A J) pl k1 k2 99 [(0, .ref 100), (1, .int x1), (2, .int x2)] [.ref 142, .int x2, .int x1, .ref 116])
    (e_3 : (¬ z9 = 0) → (x1 = 0) → (x2 = 0) → Ψx "java/lang/UnsupportedOperationException" (mC P O I A J) pl)
    (e_4 : (z9 = 0) → Ψx "java/lang/IllegalStateException" (mC P O I A J) pl) :
    WA X (mC P O I A J) pl k1 k2 53 [(0, .ref 100), (1, .int x1), (2, .int x2)] [.int z9] := by
  refine a_if_ne (tgt := 67) F dX11_race_53 (by decide) (fun (c_6 : ¬ z9 = 0) => ?_) (fun (c_6 : z9 = 0) => ?_)
  · refine a_iload_n F 1 dX11_race_67 rfl rfl ?_
    refine a_if_ne (tgt := 86) F dX11_race_68 (by decide) (fun (c_7 : ¬ x1 = 0) => ?_) (fun (c_7 : x1 = 0) => ?_)
    · refine a_aload_n F 0 dX11_race_86 rfl rfl ?_
      refine a_getr (b := 116) F fl_11_70 rfl (hB _ (by decide)) rfl ((hP 100 8 (by decide)).trans rfl) dX11_race_87 ?_
      refine a_iload_n F 1 dX11_race_90 rfl rfl ?_
      refine a_iload_n F 2 dX11_race_91 rfl rfl ?_
      refine a_aload_n F 0 dX11_race_92 rfl rfl ?_
      refine a_getr (b := 126) F fl_11_77 rfl (hB _ (by decide)) rfl ((hP 100 9 (by decide)).trans rfl) dX11_race_93 ?_
      refine a_getr (b := 142) F fl_11_252 rfl (hB _ (by decide)) rfl ((hP 126 3 (by decide)).trans rfl) dX11_race_96 ?_
      exact e_1 c_6 c_7
    · refine a_iload_n F 2 dX11_race_71 rfl rfl ?_
      refine a_if_ne (tgt := 86) F dX11_race_72 (by decide) (fun (c_8 : ¬ x2 = 0) => ?_) (fun (c_8 : x2 = 0) => ?_)
      · refine a_aload_n F 0 dX11_race_86 rfl rfl ?_
        refine a_getr (b := 116) F fl_11_70 rfl (hB _ (by decide)) rfl ((hP 100 8 (by decide)).trans rfl) dX11_race_87 ?_
        refine a_iload_n F 1 dX11_race_90 rfl rfl ?_
        refine a_iload_n F 2 dX11_race_91 rfl rfl ?_
        refine a_aload_n F 0 dX11_race_92 rfl rfl ?_
        refine a_getr (b := 126) F fl_11_77 rfl (hB _ (by decide)) rfl ((hP 100 9 (by decide)).trans rfl) dX11_race_93 ?_
        refine a_getr (b := 142) F fl_11_252 rfl (hB _ (by decide)) rfl ((hP 126 3 (by decide)).trans rfl) dX11_race_96 ?_
        exact e_2 c_6 c_7 c_8
      · exact a_throwSW F S T (TW.m287 (List.mem_of_getElem? (i := 17) rfl)) (by decide) dX11_race_75 dX11_race_78 dX11_race_79 dX11_race_82 dX11_race_85 (by omega) (by omega) (by decide) (e_3 c_6 c_7 c_8)
  · exact a_throwSW F S T (TW.m103 (List.mem_of_getElem? (i := 16) rfl)) (by decide) dX11_race_56 dX11_race_59 dX11_race_60 dX11_race_63 dX11_race_66 (by omega) (by omega) (by decide) (e_4 c_6)

theorem r_11_race_102g {X : Ctx} {mc ms k1 k2 : Nat} (F : Fx X cX11_race RX11 3 18 mc ms) (S : SXX X) {Ψx : String → HS → List Nat → Prop} (T : Tx X mc ms Ψx) (hk1 : k1 + 6 ≤ mc) (hk2 : k2 + 36 ≤ ms) {P O : Nat → Nat → Option Nat} (hP : laP P) {I A : Nat → Nat → Int32} {J : Nat → Nat → Int64} {pl : List Nat} (hB : inB pl) {x1 x2 : Int32}
    (e_1 : WA X (mC P O I A J) pl k1 k2 108 [(0, .ref 100), (1, .int x1), (2, .int x2)] [.int 24, .ref 126]) :
    WA X (mC P O I A J) pl k1 k2 102 [(0, .ref 100), (1, .int x1), (2, .int x2)] [] := by
  refine a_aload_n F 0 dX11_race_102 rfl rfl ?_
  refine a_getr (b := 126) F fl_11_77 rfl (hB _ (by decide)) rfl ((hP 100 9 (by decide)).trans rfl) dX11_race_103 ?_
  refine a_bipush (v := 24) F dX11_race_106 (by decide) ?_
  exact e_1

theorem r_11_race_111h {X : Ctx} {mc ms k1 k2 : Nat} (F : Fx X cX11_race RX11 3 18 mc ms) (S : SXX X) {Ψx : String → HS → List Nat → Prop} (T : Tx X mc ms Ψx) (hk1 : k1 + 6 ≤ mc) (hk2 : k2 + 36 ≤ ms) {Φ : Option Value → HS → List Nat → Prop} (E : Ex X (some .int) mc ms Φ) {P O : Nat → Nat → Option Nat} (hP : laP P) {I A : Nat → Nat → Int32} {J : Nat → Nat → Int64} {pl : List Nat} (hB : inB pl) {x1 x2 : Int32}
    (e_1 : Φ (some (.int (I 122 1))) (mC P O I A J) pl) :
    WA X (mC P O I A J) pl k1 k2 111 [(0, .ref 100), (1, .int x1), (2, .int x2)] [] := by
  refine a_aload_n F 0 dX11_race_111 rfl rfl ?_
  refine a_getr (b := 122) F fl_11_16 rfl (hB _ (by decide)) rfl ((hP 100 1 (by decide)).trans rfl) dX11_race_112 ?_
  refine a_geti F fl_11_84 rfl (hB _ (by decide)) rfl dX11_race_115 ?_
  exact a_iret F E dX11_race_118 (by omega) (by omega) (e_1)

set_option maxRecDepth 10000 in
theorem c_11_race (l : Launch) (hst : l.stackTraces = false) {P O : Nat → Nat → Option Nat} (hP : laP P) (I A : Nat → Nat → Int32) (J : Nat → Nat → Int64) {pl : List Nat} (hB : inB pl) (x y : Int32) (hF : laF P) (hS : shI I) (hO : shO O pl) (ht : rkT (A 118)) (hC : clC P O pl) (hT : pwT J) (hsd : sdI O J) (hdg : digW (J 141) 6) : ConX l 18 yX11_race cX11_race 3 (some .int) [.ref 100, .int x, .int y] (mC P O I A J) pl (14 + gN ((stdI x ∧ stdI y) ∧ (nI (pipS x.toNatClampNeg) ≤ I 100 10 ∧ nI (pipS y.toNatClampNeg) ≤ I 100 10)) (2 * rcF O x.toNatClampNeg y.toNatClampNeg)) (120 + gN ((stdI x ∧ stdI y) ∧ (nI (pipS x.toNatClampNeg) ≤ I 100 10 ∧ nI (pipS y.toNatClampNeg) ≤ I 100 10)) (1153 * rcF O x.toNatClampNeg y.toNatClampNeg)) (fun r σ' pl' => (stdI x ∧ stdI y) ∧ (nI (pipS x.toNatClampNeg) ≤ I 100 10 ∧ nI (pipS y.toNatClampNeg) ≤ I 100 10) ∧ (wN 12 x.toNatClampNeg = 36 ^ 12 ∧ wN 12 y.toNatClampNeg = 36 ^ 12) ∧ ¬ (x.toNatClampNeg = 0 ∧ y.toNatClampNeg = 0) ∧ ∃ P1 O1 I1 J1, gr P O I J pl P1 O1 I1 J1 pl' ∧ sdI O1 J1 ∧ frT O1 + rcF O x.toNatClampNeg y.toNatClampNeg = frT O ∧ pgC P1 O1 I1 A J1 pl' (raC x.toNatClampNeg y.toNatClampNeg) 24 r σ' pl') (fun E σ' pl' => (σ' = mC P O I A J ∧ pl = pl' ∧ ((E = "java/lang/IllegalArgumentException" ∧ ¬ (stdI x ∧ stdI y)) ∨ (E = "java/lang/IllegalStateException" ∧ (stdI x ∧ stdI y) ∧ ¬ (nI (pipS x.toNatClampNeg) ≤ I 100 10 ∧ nI (pipS y.toNatClampNeg) ≤ I 100 10)))) ∨ (E = "java/lang/IllegalStateException" ∧ (stdI x ∧ stdI y) ∧ (nI (pipS x.toNatClampNeg) ≤ I 100 10 ∧ nI (pipS y.toNatClampNeg) ≤ I 100 10) ∧ ¬ (wN 12 x.toNatClampNeg = 36 ^ 12 ∧ wN 12 y.toNatClampNeg = 36 ^ 12) ∧ ∃ P1 O1 I1 J1, σ' = mC P1 O1 I1 A J1 ∧ gr P O I J pl P1 O1 I1 J1 pl' ∧ sdI O1 J1 ∧ frT O1 + rcF O x.toNatClampNeg y.toNatClampNeg = frT O) ∨ (E = "java/lang/UnsupportedOperationException" ∧ (stdI x ∧ stdI y) ∧ (nI (pipS x.toNatClampNeg) ≤ I 100 10 ∧ nI (pipS y.toNatClampNeg) ≤ I 100 10) ∧ (wN 12 x.toNatClampNeg = 36 ^ 12 ∧ wN 12 y.toNatClampNeg = 36 ^ 12) ∧ (x.toNatClampNeg = 0 ∧ y.toNatClampNeg = 0) ∧ ∃ P1 O1 I1 J1, σ' = mC P1 O1 I1 A J1 ∧ gr P O I J pl P1 O1 I1 J1 pl' ∧ sdI O1 J1 ∧ frT O1 + rcF O x.toNatClampNeg y.toNatClampNeg = frT O)) := by
  refine ConX.of hst (by decide) (Nat.le_of_ble_eq_true rfl) (fun X hX9 hn9 F E S T => ?_)
  refine r_11_race_0 F S T (by omega) (by omega) hP hB (fun h => Or.inl ⟨rfl, rfl, Or.inl ⟨rfl, fun z => h z.1⟩⟩) (fun h1 h => Or.inl ⟨rfl, rfl, Or.inl ⟨rfl, fun z => h z.2⟩⟩) (fun h _ => h) (fun h1 h2 h => Or.inl ⟨rfl, rfl, Or.inr ⟨rfl, ⟨h1, h2⟩, fun z => h z.1⟩⟩) (fun _ h _ => h) (fun h1 h2 h3 h => Or.inl ⟨rfl, rfl, Or.inr ⟨rfl, ⟨h1, h2⟩, fun z => h z.2⟩⟩) (fun h1 h2 h3 h4 => ?_)
  obtain ⟨u, hu, rfl⟩ := std_of h1
  obtain ⟨v, hv, rfl⟩ := std_of h2
  have hu2 : u < 2 ^ 31 := Nat.lt_trans hu.1 (by decide)
  have hv2 : v < 2 ^ 31 := Nat.lt_trans hv.1 (by decide)
  have eu : (nI u).toNatClampNeg = u := nI_clamp hu2
  have ev : (nI v).toNatClampNeg = v := nI_clamp hv2
  rw [gN_t ⟨⟨h1, h2⟩, h3, h4⟩, gN_t ⟨⟨h1, h2⟩, h3, h4⟩] at F E T
  rw [eu] at F E T h3
  rw [ev] at F E T h4
  have hle := nd_rc O u v
  have hwu := wk_nd hsd hu
  refine a_callVS (b := 116) (As := [.int (nI u)]) (st := []) (ci := 8) F S.1 (c_8_workOut (xl X) hP I A J hB u hF hS hO hu ht hC hT hsd) ml_11_250 im_yX8_workOut se_yX8_workOut (by decide) (by decide) rfl (hB _ (by decide)) rfl rfl dX11_race_23 (by decide) (by omega) (by omega) (hl_r (hB _ (by decide)) (hl_i (hl_i hl_nil))) hs_nil ?_
  rintro r1 σ1 pl1 ⟨rfl, Pa, Oa, Ia, Ja, rfl, ga, hsda, hdua, hfra⟩ _
  have hPa := ga.la hP
  have hBa := ga.b hB
  rw [hwu] at hfra
  have hrc := rc_eq (y := v) (fr_pt (ga.mono hO) hu hsda hdua hfra)
  have hwv := wk_nd hsda hv
  refine r_11_race_26b F S T (by omega) (by omega) hPa hBa ?_
  refine a_callVS (b := 116) (As := [.int (nI v)]) (st := []) (ci := 8) F S.1 (c_8_workOut (xl X) hPa Ia A Ja hBa v (ga.1.lf hF) (ga.shI hS) ga.2.2.2.1 hv ht ga.2.2.1 (ga.pw hT) hsda) ml_11_250 im_yX8_workOut se_yX8_workOut (by decide) (by decide) rfl (hBa _ (by decide)) rfl rfl dX11_race_31 (by decide) (by omega) (by omega) (hl_r (hBa _ (by decide)) (hl_i (hl_i hl_nil))) hs_nil ?_
  rintro r1 σ1 pl2 ⟨rfl, P1, O1, I1, J1, rfl, gb, hsd1, hdv, hfrb⟩ _
  have hg := ga.tr gb
  have hdu : dnC O1 J1 u := gb.2.2.2.2.2.2.2.2 u hu hdua
  have hP1 := hg.la hP
  have hB1 := hg.b hB
  have hT1 := hg.pw hT
  have hfr : frT O1 + rcF O u v = frT O := by rw [hwv] at hfrb; omega
  have hgr : ∃ P1 O1' I1' J1', gr P O I J pl P1 O1' I1' J1' pl2 ∧ sdI O1' J1' ∧ frT O1' + rcF O u v = frT O := ⟨P1, O1, I1, J1, hg, hsd1, hfr⟩
  refine r_11_race_34c F S T (by omega) (by omega) hP1 hB1 ?_
  refine a_callV (b := 116) (As := [.int (nI u)]) (st := []) (ci := 8) F (c_8_isSure (xl X) hP1 I1 A J1 hB1 u hg.2.2.2.1 hu ht) ml_11_278 im_yX8_isSure se_yX8_isSure (by decide) (by decide) rfl (hB1 _ (by decide)) rfl rfl dX11_race_39 (by decide) (by omega) (by omega) (hl_r (hB1 _ (by decide)) (hl_i (hl_i hl_nil))) hs_nil ?_
  rintro _ _ _ ⟨rfl, rfl, rfl⟩ _
  rw [ch_w hdu (by decide), hT1.1 12 (by decide)]
  refine r_11_race_42d F S T (by omega) (by omega) hP1 hB1 (fun z => Or.inr (Or.inl ⟨rfl, ⟨h1, h2⟩, ⟨h3, h4⟩, fun c => ?_, P1, O1, I1, J1, rfl, hg, hsd1, hfr⟩)) (fun z1 => ?_)
  · rw [if_pos ((sure_w hu).mpr c.1)] at z; exact absurd z (by decide)
  have su : wN 12 u = 36 ^ 12 := by
    by_cases c : lN (wN 12 u) = lN (36 ^ 12)
    · exact (sure_w hu).mp c
    · exact absurd (if_neg c) z1
  refine a_callV (b := 116) (As := [.int (nI v)]) (st := []) (ci := 8) F (c_8_isSure (xl X) hP1 I1 A J1 hB1 v hg.2.2.2.1 hv ht) ml_11_278 im_yX8_isSure se_yX8_isSure (by decide) (by decide) rfl (hB1 _ (by decide)) rfl rfl dX11_race_50 (by decide) (by omega) (by omega) (hl_r (hB1 _ (by decide)) (hl_i (hl_i hl_nil))) hs_nil ?_
  rintro _ _ _ ⟨rfl, rfl, rfl⟩ _
  rw [ch_w hdv (by decide), hT1.1 12 (by decide)]
  have hsv : ¬ (if lN (wN 12 v) = lN (36 ^ 12) then (1 : Int32) else 0) = 0 → wN 12 v = 36 ^ 12 := fun z => by
    by_cases c : lN (wN 12 v) = lN (36 ^ 12)
    · exact (sure_w hv).mp c
    · exact absurd (if_neg c) z
  have go : wN 12 v = 36 ^ 12 → ¬ (u = 0 ∧ v = 0) → WA X (mC P1 O1 I1 A J1) pl2 (0 + 1 + 1 + 1 + 1 + 2 * wkC O J u + 2 * wkC Oa Ja v + 0 + 0) (0 + 6 + 6 + 6 + 6 + 1153 * wkC O J u + 1153 * wkC Oa Ja v + 0 + 0) 99 [(0, .ref 100), (1, .int (nI u)), (2, .int (nI v))] [.ref 142, .int (nI v), .int (nI u), .ref 116] := fun sv h0 => by
    refine a_callV (b := 116) (As := [.int (nI u), .int (nI v), .ref 142]) (st := []) (ci := 8) F (c_8_putRace (xl X) hP1 I1 A J1 hB1 u v hg.2.2.2.1 hu hv ht hT1 hdu hdv) ml_11_288 im_yX8_putRace se_yX8_putRace (by decide) (by decide) rfl (hB1 _ (by decide)) rfl rfl dX11_race_99 (by decide) (by omega) (by omega) (hl_r (hB1 _ (by decide)) (hl_i (hl_i hl_nil))) hs_nil ?_
    rintro r2 σ2 pl3 ⟨rfl, rfl, J2, rfl, hJ2, hd2, hv2⟩ _
    have hd4 : digW (J2 141) 6 := by rw [hJ2 141 (by decide) (by decide) (by decide), hg.2.2.2.2.2.2.2.1 141 (by decide) (by decide) (by decide)]; exact hdg
    refine r_11_race_102g F S T (by omega) (by omega) hP1 hB1 ?_
    refine a_callV (b := 126) (As := [.int (nI 24)]) (st := []) (ci := 4) F (c_4_print (xl X) hP1 I1 A J2 hB1 24 (by omega) hd2 hd4) ml_11_260 im_yX4_print se_yX4_print (by decide) (by decide) rfl (hB1 _ (by decide)) rfl rfl dX11_race_108 (by decide) (by omega) (by omega) (hl_r (hB1 _ (by decide)) (hl_i (hl_i hl_nil))) hs_nil ?_
    intro r3 σ3 pl3 hpr _
    have hpr' := hpr
    obtain ⟨I3, A3, J3, len, txt, rfl, rfl, rfl, hI3, hlen, hrest⟩ := hpr
    refine r_11_race_111h F S T (by omega) (by omega) E hP1 hB1 ?_
    rw [hv2] at hpr'
    refine ⟨⟨h1, h2⟩, ⟨h3, h4⟩, ⟨su, sv⟩, h0, P1, O1, I1, J1, hg, hsd1, hfr, J2, I3, A3, J3, len, hJ2, rfl, rfl, by rw [hlen], ?_, hlen⟩
    exact hpr'
  have n0 : ∀ w, w < 2 ^ 31 → (nI w = 0 ↔ w = 0) := fun w hw => nI_eqn 0 hw (by decide)
  refine r_11_race_53e F S T (by omega) (by omega) hP1 hB1 (fun z1 z2 => go (hsv z1) (fun z => z2 ((n0 u hu2).mpr z.1))) (fun z1 z2 z3 => go (hsv z1) (fun z => z3 ((n0 v hv2).mpr z.2))) (fun z1 z2 z3 => Or.inr (Or.inr ⟨rfl, ⟨h1, h2⟩, ⟨h3, h4⟩, ⟨su, hsv z1⟩, ⟨(n0 u hu2).mp z2, (n0 v hv2).mp z3⟩, P1, O1, I1, J1, rfl, hg, hsd1, hfr⟩)) (fun z => Or.inr (Or.inl ⟨rfl, ⟨h1, h2⟩, ⟨h3, h4⟩, fun c => ?_, P1, O1, I1, J1, rfl, hg, hsd1, hfr⟩))
  rw [if_pos ((sure_w hv).mpr c.2)] at z; exact absurd z (by decide)
