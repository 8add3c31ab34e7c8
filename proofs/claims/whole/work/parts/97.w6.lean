theorem r_4_print_0 {X : Ctx} (F : Fx X cX4_print RX4 3 3 0 0) {P O : Nat → Nat → Option Nat} (hP : laP P) {I A : Nat → Nat → Int32} {J : Nat → Nat → Int64} {pl : List Nat} (hB : inB pl) {x1 : Int32}
    (o_1 : ¬ (1 : Int64) < 0)
    (o_2 : digW ((up1 J 141 (putW (J 141) 6 (1 : Int64).toNatClampNeg)) 143) 6)
    (e_3 : (valW ((up1 J 141 (putW (J 141) 6 (1 : Int64).toNatClampNeg)) 143) 6 = 0) → WA X (mC P O (up2 I 122 1 0) A (up1 J 141 (putW (J 141) 6 (1 : Int64).toNatClampNeg))) pl 0 0 42 [(0, .ref 126), (1, .int x1)] [])
    (e_4 : (¬ (valW ((up1 J 141 (putW (J 141) 6 (1 : Int64).toNatClampNeg)) 143) 6 = 0)) → WA X (mC P O (up2 I 122 1 0) A (up1 J 141 (putW (J 141) 6 (1 : Int64).toNatClampNeg))) pl 0 0 26 [(0, .ref 126), (1, .int x1)] []) :
    WA X (mC P O I A J) pl 0 0 0 [(0, .ref 126), (1, .int x1)] [] := by
  refine a_aload_n F 0 dX4_print_0 rfl rfl ?_
  refine a_getr (b := 122) F fl_4_23 rfl (hB _ (by decide)) rfl ((hP 126 0 (by decide)).trans rfl) dX4_print_1 ?_
  refine a_iconst (v := 0) F dX4_print_4 (by decide) ?_
  refine a_puti F fl_4_27 rfl rfl rfl rfl (hB _ (by decide)) rfl dX4_print_5 ?_
  refine a_aload_n F 0 dX4_print_8 rfl rfl ?_
  refine a_getr (b := 140) F fl_4_10 rfl (hB _ (by decide)) rfl ((hP 126 1 (by decide)).trans rfl) dX4_print_9 ?_
  refine a_lconst (v := 1) F dX4_print_12 (by decide) ?_
  refine a_callV (b := 140) (As := [.long 1]) (st := []) (ci := 10) F (c_10_setL (xl X) hP (up2 I 122 1 0) A J hB 140 rfl (hB _ (by decide)) (hB _ (by decide)) (1 : Int64) (o_1)) ml_4_33 im_yX10_set se_yX10_set (by decide) (by decide) rfl (hB _ (by decide)) rfl rfl dX4_print_13 (by decide) (Nat.le_refl 0) (Nat.le_refl 0) (hl_r (hB _ (by decide)) (hl_i hl_nil)) hs_nil ?_
  rintro _ _ _ ⟨rfl, rfl, rfl⟩ _
  show WA X (mC P O (up2 I 122 1 0) A (up1 J 141 (putW (J 141) 6 (1 : Int64).toNatClampNeg))) pl 0 0 16 [(0, .ref 126), (1, .int x1)] []
  refine a_aload_n F 0 dX4_print_16 rfl rfl ?_
  refine a_getr (b := 142) F fl_4_20 rfl (hB _ (by decide)) rfl ((hP 126 3 (by decide)).trans rfl) dX4_print_17 ?_
  refine a_callV (b := 142) (As := []) (st := []) (ci := 10) F (c_10_isZero (xl X) hP (up2 I 122 1 0) A (up1 J 141 (putW (J 141) 6 (1 : Int64).toNatClampNeg)) hB 142 rfl (hB _ (by decide)) (hB _ (by decide)) (o_2)) ml_4_37 im_yX10_isZero se_yX10_isZero (by decide) (by decide) rfl (hB _ (by decide)) rfl rfl dX4_print_20 (by decide) (Nat.le_refl 0) (Nat.le_refl 0) (hl_r (hB _ (by decide)) (hl_i hl_nil)) hs_nil ?_
  rintro _ _ _ ⟨rfl, rfl, rfl⟩ _
  show WA X (mC P O (up2 I 122 1 0) A (up1 J 141 (putW (J 141) 6 (1 : Int64).toNatClampNeg))) pl 0 0 23 [(0, .ref 126), (1, .int x1)] [.int (if valW ((up1 J 141 (putW (J 141) 6 (1 : Int64).toNatClampNeg)) 143) 6 = 0 then 1 else 0)]
  refine a_ite (fun (c_1 : valW ((up1 J 141 (putW (J 141) 6 (1 : Int64).toNatClampNeg)) 143) 6 = 0) => ?_) (fun (c_1 : ¬ (valW ((up1 J 141 (putW (J 141) 6 (1 : Int64).toNatClampNeg)) 143) 6 = 0)) => ?_)
  · refine a_if_ne (tgt := 42) F dX4_print_23 (by decide) (fun (c_2 : ¬ (1 : Int32) = 0) => ?_) (fun (c_2 : (1 : Int32) = 0) => ?_)
    · exact e_3 c_1
    · exact absurd c_2 (by decide)
  · refine a_if_ne (tgt := 42) F dX4_print_23 (by decide) (fun (c_3 : ¬ (0 : Int32) = 0) => ?_) (fun (c_3 : (0 : Int32) = 0) => ?_)
    · exact absurd c_3 (by decide)
    · exact e_4 c_1

theorem r_4_print_26 {X : Ctx} (F : Fx X cX4_print RX4 3 3 0 0) {P O : Nat → Nat → Option Nat} (hP : laP P) {I A : Nat → Nat → Int32} {J : Nat → Nat → Int64} {pl : List Nat} (hB : inB pl) {x1 : Int32}
    (e_1 : WA X (mC P O I A J) pl 0 0 31 [(0, .ref 126), (1, .int x1)] [.int (2 * x1), .int 2, .ref 126]) :
    WA X (mC P O I A J) pl 0 0 26 [(0, .ref 126), (1, .int x1)] [] := by
  refine a_aload_n F 0 dX4_print_26 rfl rfl ?_
  refine a_iconst (v := 2) F dX4_print_27 (by decide) ?_
  refine a_iconst (v := 2) F dX4_print_28 (by decide) ?_
  refine a_iload_n F 1 dX4_print_29 rfl rfl ?_
  refine a_imul F dX4_print_30 ?_
  exact e_1

theorem r_4_print_34 {X : Ctx} (F : Fx X cX4_print RX4 3 3 0 0) {P O : Nat → Nat → Option Nat} (hP : laP P) {I A : Nat → Nat → Int32} {J : Nat → Nat → Int64} {pl : List Nat} (hB : inB pl) {x1 : Int32}
    (e_1 : WA X (mC P O I A J) pl 0 0 39 [(0, .ref 126), (1, .int x1)] [.int (2 * x1), .int 3, .ref 126]) :
    WA X (mC P O I A J) pl 0 0 34 [(0, .ref 126), (1, .int x1)] [] := by
  refine a_aload_n F 0 dX4_print_34 rfl rfl ?_
  refine a_iconst (v := 3) F dX4_print_35 (by decide) ?_
  refine a_iconst (v := 2) F dX4_print_36 (by decide) ?_
  refine a_iload_n F 1 dX4_print_37 rfl rfl ?_
  refine a_imul F dX4_print_38 ?_
  exact e_1

theorem r_4_print_42 {X : Ctx} (F : Fx X cX4_print RX4 3 3 0 0) {P O : Nat → Nat → Option Nat} (hP : laP P) {I A : Nat → Nat → Int32} {J : Nat → Nat → Int64} {pl : List Nat} (hB : inB pl) {x1 : Int32}
    (o_1 : digW (J 141) 6)
    (e_2 : (valW (J 141) 6 = 1) → WA X (mC P O I A J) pl 0 0 50 [(0, .ref 126), (1, .int x1), (2, .int 1)] [])
    (e_3 : (¬ (valW (J 141) 6 = 1)) → WA X (mC P O I A J) pl 0 0 50 [(0, .ref 126), (1, .int x1), (2, .int 0)] []) :
    WA X (mC P O I A J) pl 0 0 42 [(0, .ref 126), (1, .int x1)] [] := by
  refine a_aload_n F 0 dX4_print_42 rfl rfl ?_
  refine a_getr (b := 140) F fl_4_10 rfl (hB _ (by decide)) rfl ((hP 126 1 (by decide)).trans rfl) dX4_print_43 ?_
  refine a_callV (b := 140) (As := []) (st := []) (ci := 10) F (c_10_isOne (xl X) hP I A J hB 140 rfl (hB _ (by decide)) (hB _ (by decide)) (o_1)) ml_4_45 im_yX10_isOne se_yX10_isOne (by decide) (by decide) rfl (hB _ (by decide)) rfl rfl dX4_print_46 (by decide) (Nat.le_refl 0) (Nat.le_refl 0) (hl_r (hB _ (by decide)) (hl_i hl_nil)) hs_nil ?_
  rintro _ _ _ ⟨rfl, rfl, rfl⟩ _
  show WA X (mC P O I A J) pl 0 0 49 [(0, .ref 126), (1, .int x1)] [.int (if valW (J 141) 6 = 1 then 1 else 0)]
  refine a_ite (fun (c_4 : valW (J 141) 6 = 1) => ?_) (fun (c_4 : ¬ (valW (J 141) 6 = 1)) => ?_)
  · refine a_istore_n F dX4_print_49 rfl (by decide) rfl ?_
    refine a_sub [1, 2, 0] rfl ?_
    exact e_2 c_4
  · refine a_istore_n F dX4_print_49 rfl (by decide) rfl ?_
    refine a_sub [1, 2, 0] rfl ?_
    exact e_3 c_4

theorem r_4_print_50 {X : Ctx} (F : Fx X cX4_print RX4 3 3 0 0) {P O : Nat → Nat → Option Nat} (hP : laP P) {I A : Nat → Nat → Int32} {J : Nat → Nat → Int64} {pl : List Nat} (hB : inB pl) {x1 x2 : Int32}
    (e_1 : WA X (mC P O I A J) pl 0 0 55 [(0, .ref 126), (1, .int x1), (2, .int x2)] [.ref 142, .ref 126]) :
    WA X (mC P O I A J) pl 0 0 50 [(0, .ref 126), (1, .int x1), (2, .int x2)] [] := by
  refine a_aload_n F 0 dX4_print_50 rfl rfl ?_
  refine a_aload_n F 0 dX4_print_51 rfl rfl ?_
  refine a_getr (b := 142) F fl_4_20 rfl (hB _ (by decide)) rfl ((hP 126 3 (by decide)).trans rfl) dX4_print_52 ?_
  exact e_1

theorem r_4_print_62 {X : Ctx} (F : Fx X cX4_print RX4 3 3 0 0) {P O : Nat → Nat → Option Nat} (hP : laP P) {I A : Nat → Nat → Int32} {J : Nat → Nat → Int64} {pl : List Nat} (hB : inB pl) {x1 x2 : Int32}
    (o_1 : szL (I 122 1))
    (e_2 : WA X (mC P O (up2 I 122 1 (I 122 1 + 1)) (up1 A 123 (upd (A 123) (I 122 1).toNatClampNeg ((47 : Int32) &&& 255))) J) pl 0 0 71 [(0, .ref 126), (1, .int x1), (2, .int x2)] []) :
    WA X (mC P O I A J) pl 0 0 62 [(0, .ref 126), (1, .int x1), (2, .int x2)] [] := by
  refine a_aload_n F 0 dX4_print_62 rfl rfl ?_
  refine a_getr (b := 122) F fl_4_23 rfl (hB _ (by decide)) rfl ((hP 126 0 (by decide)).trans rfl) dX4_print_63 ?_
  refine a_bipush (v := 47) F dX4_print_66 (by decide) ?_
  refine a_callV (b := 122) (As := [.int 47]) (st := []) (ci := 1) F (c_1_addI (xl X) hP I A J hB 122 rfl (hB _ (by decide)) (hB _ (by decide)) (47 : Int32) (o_1)) ml_4_52 im_yX1_add se_yX1_add (by decide) (by decide) rfl (hB _ (by decide)) rfl rfl dX4_print_68 (by decide) (Nat.le_refl 0) (Nat.le_refl 0) (hl_r (hB _ (by decide)) (hl_i (hl_i hl_nil))) hs_nil ?_
  rintro _ _ _ ⟨rfl, rfl, rfl⟩ _
  show WA X (mC P O (up2 I 122 1 (I 122 1 + 1)) (up1 A 123 (upd (A 123) (I 122 1).toNatClampNeg ((47 : Int32) &&& 255))) J) pl 0 0 71 [(0, .ref 126), (1, .int x1), (2, .int x2)] []
  exact e_2

theorem r_4_print_71 {X : Ctx} (F : Fx X cX4_print RX4 3 3 0 0) {P O : Nat → Nat → Option Nat} (hP : laP P) {I A : Nat → Nat → Int32} {J : Nat → Nat → Int64} {pl : List Nat} (hB : inB pl) {x1 x2 : Int32}
    (e_1 : WA X (mC P O I A J) pl 0 0 76 [(0, .ref 126), (1, .int x1), (2, .int x2)] [.ref 140, .ref 126]) :
    WA X (mC P O I A J) pl 0 0 71 [(0, .ref 126), (1, .int x1), (2, .int x2)] [] := by
  refine a_aload_n F 0 dX4_print_71 rfl rfl ?_
  refine a_aload_n F 0 dX4_print_72 rfl rfl ?_
  refine a_getr (b := 140) F fl_4_10 rfl (hB _ (by decide)) rfl ((hP 126 1 (by decide)).trans rfl) dX4_print_73 ?_
  exact e_1

theorem r_4_print_58 {X : Ctx} (F : Fx X cX4_print RX4 3 3 0 0) {Φ : Option Value → HS → List Nat → Prop} (E : Ex X none 0 0 Φ) {P O : Nat → Nat → Option Nat} (hP : laP P) {I A : Nat → Nat → Int32} {J : Nat → Nat → Int64} {pl : List Nat} (hB : inB pl) {x1 x2 : Int32}
    (e_1 : (¬ x2 = 0) → Φ none (mC P O I A J) pl)
    (e_2 : (x2 = 0) → WA X (mC P O I A J) pl 0 0 62 [(0, .ref 126), (1, .int x1), (2, .int x2)] []) :
    WA X (mC P O I A J) pl 0 0 58 [(0, .ref 126), (1, .int x1), (2, .int x2)] [] := by
  refine a_iload_n F 2 dX4_print_58 rfl rfl ?_
  refine a_if_ne (tgt := 79) F dX4_print_59 (by decide) (fun (c_5 : ¬ x2 = 0) => ?_) (fun (c_5 : x2 = 0) => ?_)
  · exact a_vret F E dX4_print_79 (Nat.le_refl 0) (Nat.le_refl 0) (e_1 c_5)
  · exact e_2 c_5

theorem r_4_print_79 {X : Ctx} (F : Fx X cX4_print RX4 3 3 0 0) {Φ : Option Value → HS → List Nat → Prop} (E : Ex X none 0 0 Φ) {P O : Nat → Nat → Option Nat} (hP : laP P) {I A : Nat → Nat → Int32} {J : Nat → Nat → Int64} {pl : List Nat} (hB : inB pl) {x1 x2 : Int32}
    (e_1 : Φ none (mC P O I A J) pl) :
    WA X (mC P O I A J) pl 0 0 79 [(0, .ref 126), (1, .int x1), (2, .int x2)] [] := by
  exact a_vret F E dX4_print_79 (Nat.le_refl 0) (Nat.le_refl 0) (e_1)

set_option maxRecDepth 100000 in
theorem c_4_print (l : Launch) {P O : Nat → Nat → Option Nat} (hP : laP P) (I A : Nat → Nat → Int32) (J : Nat → Nat → Int64) {pl : List Nat} (hB : inB pl) (p : Nat) (hp : p ≤ 32) (d1 : digW (J 143) 6) (d2 : digW (J 141) 6) : Con l 3 yX4_print cX4_print 3 none [.ref 126, .int (nI p)] (mC P O I A J) pl 0 0 (prC P O I A J pl (prT (valW (J 143) 6) p)) := by
  refine Con.of (by decide) (Nat.le_of_ble_eq_true rfl) (fun X hX9 hn9 F E => ?_)
  have fin : ∀ (I0 : Nat → Nat → Int32) (J0 : Nat → Nat → Int64) (Uw Lw : Nat), (∀ q k, ¬ (q = 122 ∧ k = 1) → I0 q k = I q k) → I0 122 1 = 0 → (∀ p, p ≠ 141 → p ≠ 143 → J0 p = J p) → digW (J0 143) 6 → valW (J0 143) 6 = Uw → digW (J0 141) 6 → valW (J0 141) 6 = Lw → (∀ len txt, prX Uw Lw len txt → prT (valW (J 143) 6) p len txt) → WA X (mC P O I0 A J0) pl 0 0 42 [(0, .ref 126), (1, .int (nI p))] [] := by
    intro I0 J0 Uw Lw hI0 h0 hJ0 e1 e2 e3 e4 hQ
    have go : ∀ x2 : Int32, (x2 = 0 ↔ Lw ≠ 1) → WA X (mC P O I0 A J0) pl 0 0 50 [(0, .ref 126), (1, .int (nI p)), (2, .int x2)] [] := by
      intro x2 hx
      refine r_4_print_50 F hP hB ?_
      refine a_callV (b := 126) (As := [.ref 142]) (st := []) (ci := 4) F (c_4_printWhole (xl X) hP I0 A J0 hB 142 rfl (hB _ (by decide)) (hB _ (by decide)) Uw 0 e1 e2 h0 (by omega)) ml_4_48 im_yX4_printWhole se_yX4_printWhole (by decide) (by decide) rfl (hB _ (by decide)) rfl rfl dX4_print_55 (by decide) (Nat.le_refl 0) (Nat.le_refl 0) (hl_r (hB _ (by decide)) (hl_i (hl_i hl_nil))) hs_nil ?_
      rintro _ _ _ ⟨I1, A1, J1, a, rfl, rfl, rfl, g1, g2, g3, g4, g5, g6, g7, g8, g9⟩ _
      rw [Nat.zero_add] at g2
      have g5 : ∀ i, i < a → A1 123 i = nI (dcd Uw a i) := fun i hi => by have := g5 i hi; rw [Nat.zero_add] at this; exact this
      refine r_4_print_58 F E hP hB (fun z => ?_) (fun z => ?_)
      · -- whole
        have hL : Lw = 1 := Decidable.of_not_not (fun y => z (hx.mpr y))
        exact ⟨I1, A1, J1, a, fun i => dcd Uw a i, rfl, rfl, rfl, fun q k h => (g1 q k h).trans (hI0 q k h), g2, by omega, hQ _ _ ⟨a, g3, fun _ _ => rfl, Or.inl ⟨hL, rfl⟩⟩, g5, g7, fun q a b => (g8 q b).trans (hJ0 q a b), by rw [g8 141 (by decide)]; exact e3, g9⟩
      · have hL : Lw ≠ 1 := hx.mp z
        refine r_4_print_62 F hP hB ⟨a, by omega, g2⟩ ?_
        refine r_4_print_71 F hP hB ?_
        rw [g2, nI_clamp (by omega), nI_1, show (47 : Int32) &&& 255 = nI 47 from by decide]
        refine a_callV (b := 126) (As := [.ref 140]) (st := []) (ci := 4) F (c_4_printWhole (xl X) hP (up2 I1 122 1 (nI (a + 1))) (up1 A1 123 (upd (A1 123) a (nI 47))) J1 hB 140 rfl (hB _ (by decide)) (hB _ (by decide)) Lw (a + 1) (by rw [g8 141 (by decide)]; exact e3) (by rw [g8 141 (by decide)]; exact e4) up2_s (by omega)) ml_4_48 im_yX4_printWhole se_yX4_printWhole (by decide) (by decide) rfl (hB _ (by decide)) rfl rfl dX4_print_76 (by decide) (Nat.le_refl 0) (Nat.le_refl 0) (hl_r (hB _ (by decide)) (hl_i (hl_i hl_nil))) hs_nil ?_
        rintro _ _ _ ⟨I2, A2, J2, b, rfl, rfl, rfl, k1, k2, k3, k4, k5, k6, k7, k8, k9⟩ _
        refine r_4_print_79 F E hP hB ?_
        have t1 : ∀ i, i < a + 1 → A2 123 i = nI (txF Uw a Lw b i) := fun i hi => by
          rw [k6 i hi, up1_s]
          rcases Nat.lt_or_ge i a with c | c
          · rw [upd_out (by omega), g5 i c, tx_1 c]
          · obtain rfl : i = a := by omega
            rw [upd_in, tx_2]
        refine ⟨I2, A2, J2, a + 1 + b, txF Uw a Lw b, rfl, rfl, rfl, fun q k h => ?_, k2, by omega, hQ _ _ ⟨a, g3, fun i hi => tx_1 hi, Or.inr ⟨hL, b, k3, rfl, tx_2, fun i _ => tx_3⟩⟩, fun i hi => ?_, fun q a b => ?_, fun q a b => (k8 q a).trans ((g8 q b).trans (hJ0 q a b)), k9, by rw [k8 143 (by decide)]; exact g9⟩
        · rw [k1 q k h]
          by_cases c : q = 122
          · subst c; rw [up2_k (fun z => h ⟨rfl, z⟩)]; exact (g1 _ _ h).trans (hI0 _ _ h)
          · rw [up2_p c]; exact (g1 _ _ h).trans (hI0 _ _ h)
        · rcases Nat.lt_or_ge i (a + 1) with c | c
          · exact t1 i c
          · obtain ⟨j, rfl⟩ : ∃ j, i = a + 1 + j := ⟨i - (a + 1), by omega⟩
            rw [k5 j (by omega), tx_3]
        · rw [k7 q a b, up1_p a]; exact g7 q a b
    refine r_4_print_42 F hP hB e3 (fun z => go 1 ⟨fun y => absurd y (by decide), fun y => absurd (e4.symm.trans z) y⟩) (fun z => go 0 ⟨fun _ y => z (e4.trans y), fun _ => rfl⟩)
  have i0 : ∀ q k, ¬ (q = 122 ∧ k = 1) → (up2 I 122 1 0) q k = I q k := fun q k h => by
    by_cases c : q = 122
    · subst c; exact up2_k (fun z => h ⟨rfl, z⟩)
    · exact up2_p c
  have e143 : (up1 J 141 (putW (J 141) 6 (1 : Int64).toNatClampNeg)) 143 = J 143 := up1_p (by decide)
  have v141 : valW ((up1 J 141 (putW (J 141) 6 (1 : Int64).toNatClampNeg)) 141) 6 = 1 := by rw [up1_s, pw_val 6 (Nat.le_refl _), show (1 : Int64).toNatClampNeg = 1 from rfl, Nat.mod_eq_of_lt (by decide +kernel)]
  have d141 : digW ((up1 J 141 (putW (J 141) 6 (1 : Int64).toNatClampNeg)) 141) 6 := by rw [up1_s]; exact pw_dig
  have hJ0 : ∀ q, q ≠ 141 → q ≠ 143 → (up1 J 141 (putW (J 141) 6 (1 : Int64).toNatClampNeg)) q = J q := fun q a _ => up1_p a
  refine r_4_print_0 F hP hB (by decide) (by rw [e143]; exact d1) (fun z => ?_) (fun z => ?_) <;> rw [e143] at z
  · exact fin _ _ 0 1 i0 up2_s hJ0 (by rw [e143]; exact d1) (by rw [e143]; exact z) d141 v141 (fun len txt h => by rw [z]; exact prT_0 h)
  · generalize up1 J 141 (putW (J 141) 6 (1 : Int64).toNatClampNeg) = J0 at e143 v141 d141 hJ0
    obtain ⟨u, hu⟩ : ∃ u, valW (J 143) 6 = u := ⟨_, rfl⟩
    have e2p : 2 * nI p = nI (2 * p) := by rw [lit 2, pk_mul]
    have h36 : (36 : Nat) ^ 32 < 2 ^ (31 * 6) := by decide +kernel
    have b2 : 1 * 2 ^ (2 * p) < 2 ^ (31 * 6) := by
      rw [Nat.one_mul]; exact Nat.pow_lt_pow_right (by decide) (by omega)
    refine r_4_print_26 F hP hB ?_
    rw [e2p]
    refine a_callV (b := 126) (As := [.int 2, .int (nI (2 * p))]) (st := []) (ci := 4) F (c_4_reduce (xl X) hP (up2 I 122 1 0) A J0 hB 2 (2 * p) u 1 (by omega) (by omega) (by omega) (by rw [e143]; exact d1) (by rw [e143]; exact hu) d141 v141 b2) ml_4_41 im_yX4_reduce se_yX4_reduce (by decide) (by decide) rfl (hB _ (by decide)) rfl rfl dX4_print_31 (by decide) (Nat.le_refl 0) (Nat.le_refl 0) (hl_r (hB _ (by decide)) (hl_i hl_nil)) hs_nil ?_
    rintro _ _ _ ⟨J1, n2, rfl, rfl, rfl, g1, g2, g3, g4, g5, g6⟩ _
    rw [Nat.one_mul] at g6
    have b3 : 2 ^ (2 * p - n2) * 3 ^ (2 * p) < 2 ^ (31 * 6) := by
      refine Nat.lt_of_le_of_lt ?_ h36
      refine Nat.le_trans (Nat.mul_le_mul_right _ (Nat.pow_le_pow_right (by decide) (Nat.sub_le (2 * p) n2))) ?_
      rw [← Nat.mul_pow, show (2 * 3 : Nat) = 6 from rfl, Nat.pow_mul, show (6 : Nat) ^ 2 = 36 from rfl]
      exact Nat.pow_le_pow_right (by decide) hp
    refine r_4_print_34 F hP hB ?_
    rw [e2p]
    refine a_callV (b := 126) (As := [.int 3, .int (nI (2 * p))]) (st := []) (ci := 4) F (c_4_reduce (xl X) hP (up2 I 122 1 0) A J1 hB 3 (2 * p) (u / 2 ^ n2) (2 ^ (2 * p - n2)) (by omega) (by omega) (by omega) g3 g4 g5 g6 b3) ml_4_41 im_yX4_reduce se_yX4_reduce (by decide) (by decide) rfl (hB _ (by decide)) rfl rfl dX4_print_39 (by decide) (Nat.le_refl 0) (Nat.le_refl 0) (hl_r (hB _ (by decide)) (hl_i hl_nil)) hs_nil ?_
    rintro _ _ _ ⟨J2, n3, rfl, rfl, rfl, k1, k2, k3, k4, k5, k6⟩ _
    exact fin _ J2 _ _ i0 up2_s (fun q a b => (k1 q a b).trans ((g1 q a b).trans (hJ0 q a b))) k3 k4 k5 k6 (fun len txt h => by rw [hu] at z ⊢; exact prT_1 z g2 k2 h)
