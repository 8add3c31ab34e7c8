/-! public methods: back, choose, plays, result, way -/
theorem r_11_back_0 {X : Ctx} {mc ms k1 k2 : Nat} (F : Fx X cX11_back RX11 1 18 mc ms) (S : SXX X) {Ψx : String → HS → List Nat → Prop} (T : Tx X mc ms Ψx) (hk1 : k1 + 6 ≤ mc) (hk2 : k2 + 36 ≤ ms) {Φ : Option Value → HS → List Nat → Prop} (E : Ex X (some .boolean) mc ms Φ) {P O : Nat → Nat → Option Nat} (hP : laP P) {I A : Nat → Nat → Int32} {J : Nat → Nat → Int64} {pl : List Nat} (hB : inB pl)
    (e_1 : (undC I) → Φ (some (.int 0)) (mC P O I A J) pl)
    (e_2 : (¬ (undC I)) → WA X (mC P O I A J) pl k1 k2 18 [(0, .ref 100)] [.ref 130, .ref 102]) :
    WA X (mC P O I A J) pl k1 k2 0 [(0, .ref 100)] [] := by
  refine a_aload_n F 0 dX11_back_0 rfl rfl ?_
  refine a_getr (b := 114) F fl_11_63 rfl (hB _ (by decide)) rfl ((hP 100 7 (by decide)).trans rfl) dX11_back_1 ?_
  refine a_callV (b := 114) (As := []) (st := []) (ci := 2) F (c_2_isUnderWay (xl X) hP I A J hB) ml_11_95 im_yX2_isUnderWay se_yX2_isUnderWay (by decide) (by decide) rfl (hB _ (by decide)) rfl rfl dX11_back_4 (by decide) (by omega) (by omega) (hl_r (hB _ (by decide)) hl_nil) hs_nil ?_
  rintro _ _ _ ⟨rfl, rfl, rfl⟩ _
  show WA X (mC P O I A J) pl k1 k2 7 [(0, .ref 100)] [.int (@ite Int32 (undC I) (Classical.propDecidable _) 1 0)]
  refine a_ite (fun (c_1 : undC I) => ?_) (fun (c_1 : ¬ (undC I)) => ?_)
  · refine a_if_ne (tgt := 24) F dX11_back_7 (by decide) (fun (c_2 : ¬ (1 : Int32) = 0) => ?_) (fun (c_2 : (1 : Int32) = 0) => ?_)
    · refine a_iconst (v := 0) F dX11_back_24 (by decide) ?_
      exact a_zret F E (by decide) dX11_back_25 (by omega) (by omega) (e_1 c_1)
    · exact absurd c_2 (by decide)
  · refine a_if_ne (tgt := 24) F dX11_back_7 (by decide) (fun (c_3 : ¬ (0 : Int32) = 0) => ?_) (fun (c_3 : (0 : Int32) = 0) => ?_)
    · exact absurd c_3 (by decide)
    · refine a_aload_n F 0 dX11_back_10 rfl rfl ?_
      refine a_getr (b := 102) F fl_11_29 rfl (hB _ (by decide)) rfl ((hP 100 3 (by decide)).trans rfl) dX11_back_11 ?_
      refine a_aload_n F 0 dX11_back_14 rfl rfl ?_
      refine a_getr (b := 130) F fl_11_22 rfl (hB _ (by decide)) rfl ((hP 100 2 (by decide)).trans rfl) dX11_back_15 ?_
      exact e_2 c_1

theorem r_11_back_21b {X : Ctx} {mc ms k1 k2 : Nat} (F : Fx X cX11_back RX11 1 18 mc ms) (S : SXX X) {Ψx : String → HS → List Nat → Prop} (T : Tx X mc ms Ψx) (hk1 : k1 + 6 ≤ mc) (hk2 : k2 + 36 ≤ ms) {Φ : Option Value → HS → List Nat → Prop} (E : Ex X (some .boolean) mc ms Φ) {P O : Nat → Nat → Option Nat} (hP : laP P) {I A : Nat → Nat → Int32} {J : Nat → Nat → Int64} {pl : List Nat} (hB : inB pl) {z9 : Int32}
    (e_1 : (¬ z9 = 0) → WA X (mC P O I A J) pl k1 k2 30 [(0, .ref 100)] [.ref 110])
    (e_2 : (z9 = 0) → Φ (some (.int 0)) (mC P O I A J) pl) :
    WA X (mC P O I A J) pl k1 k2 21 [(0, .ref 100)] [.int z9] := by
  refine a_if_ne (tgt := 26) F dX11_back_21 (by decide) (fun (c_4 : ¬ z9 = 0) => ?_) (fun (c_4 : z9 = 0) => ?_)
  · refine a_aload_n F 0 dX11_back_26 rfl rfl ?_
    refine a_getr (b := 110) F fl_11_56 rfl (hB _ (by decide)) rfl ((hP 100 6 (by decide)).trans rfl) dX11_back_27 ?_
    exact e_1 c_4
  · refine a_iconst (v := 0) F dX11_back_24 (by decide) ?_
    exact a_zret F E (by decide) dX11_back_25 (by omega) (by omega) (e_2 c_4)

set_option maxRecDepth 10000 in
theorem c_11_back (l : Launch) (hst : l.stackTraces = false) {P O : Nat → Nat → Option Nat} (hP : laP P) (I A : Nat → Nat → Int32) (J : Nat → Nat → Int64) {pl : List Nat} (hB : inB pl) (hd c : Nat) (hO : bdO O pl) (hhd : hd < 8) (hc : c ≤ 8) (h1 : I 102 1 = nI hd) (h2 : I 102 2 = nI c) (hin : c ≠ 0 → O 103 hd = some (200 + 2 * hd)) {m : Nat} {τ : TB} (ht : tbS P I A J pl m τ) : ConX l 18 yX11_back cX11_back 1 (some .boolean) [.ref 100] (mC P O I A J) pl 6 36 (fun r σ' pl' => pl = pl' ∧ (((undC I ∨ c = 0) ∧ r = some (.int 0) ∧ σ' = mC P O I A J) ∨ (¬ undC I ∧ c ≠ 0 ∧ r = some (.int 1) ∧ ∃ I1 A1, gbQ P O I A J pl 130 hd c (some (.int 1)) (mC P O I1 A1 J) pl ∧ σ' = mC P O (up2 I1 110 7 0) A1 J))) (fun _ _ _ => False) := by
  refine ConX.of hst (by decide) (Nat.le_of_ble_eq_true rfl) (fun X hX9 hn9 F E S T => ?_)
  refine r_11_back_0 F S T (by decide) (by decide) E hP hB (fun h => ⟨rfl, Or.inl ⟨Or.inl h, rfl, rfl⟩⟩) (fun h => ?_)
  refine a_callV (b := 102) (As := [.ref 130]) (st := []) (ci := 3) F (c_3_giveBack (xl X) hP I A J hB 130 rfl (hB _ (by decide)) (hB _ (by decide)) hd c hO hhd hc h1 h2 (by decide) hin) ml_11_193 im_yX3_giveBack se_yX3_giveBack (by decide) (by decide) rfl (hB _ (by decide)) rfl rfl dX11_back_18 (by decide) (by omega) (by omega) (hl_r (hB _ (by decide)) hl_nil) hs_nil ?_
  rintro r1 σ1 pl1 ⟨rfl, hg⟩ _
  rcases hg with ⟨h0, rfl, rfl⟩ | ⟨h0, rfl, I1, A1, rfl, hg⟩
  · exact r_11_back_21b F S T (by omega) (by omega) E hP hB (fun z => absurd rfl z) (fun _ => ⟨rfl, Or.inl ⟨Or.inr h0, rfl, rfl⟩⟩)
  · refine r_11_back_21b F S T (by omega) (by omega) E hP hB (fun _ => ?_) (fun z => absurd z (by decide))
    have ht2 : tbS P I1 A1 J pl m τ := ht.cg (fun k _ _ => hg.2.2.2.1 110 k (by omega) (by omega)) (hg.2.2.2.2.2 _ (by omega)) rfl
    refine a_callV (b := 110) (As := []) (st := []) (ci := 6) F (c_6_forget (xl X) hP I1 A1 J hB m τ ht2) ml_11_117 im_yX6_forget se_yX6_forget (by decide) (by decide) rfl (hB _ (by decide)) rfl rfl dX11_back_30 (by decide) (by omega) (by omega) (hl_r (hB _ (by decide)) hl_nil) hs_nil ?_
    rintro _ _ _ ⟨rfl, rfl, rfl⟩ _
    refine a_iconst (v := 1) F dX11_back_33 (by decide) ?_
    exact a_zret F E (by decide) dX11_back_34 (by omega) (by omega) ⟨rfl, Or.inr ⟨h, h0, rfl, I1, A1, ⟨rfl, Or.inr ⟨h0, rfl, I1, A1, rfl, hg⟩⟩, rfl⟩⟩

theorem r_11_result_0 {X : Ctx} {mc ms k1 k2 : Nat} (F : Fx X cX11_result RX11 4 18 mc ms) (S : SXX X) {Ψx : String → HS → List Nat → Prop} (T : Tx X mc ms Ψx) (hk1 : k1 + 6 ≤ mc) (hk2 : k2 + 36 ≤ ms) {P O : Nat → Nat → Option Nat} (hP : laP P) {I A : Nat → Nat → Int32} {J : Nat → Nat → Int64} {pl : List Nat} (hB : inB pl) {x1 x2 x3 : Int32}
    (e_1 : ¬ (0 ≤ x1 ∧ x1 < (I 110 7)) → Ψx nsN (mC P O I A J) pl)
    (e_2 : (0 ≤ x1 ∧ x1 < (I 110 7)) → ¬ ((0 ≤ x2 ∧ x2 ≤ 1) ∧ (0 ≤ x3 ∧ x3 ≤ 25)) → Ψx "java/lang/IndexOutOfBoundsException" (mC P O I A J) pl)
    (e_3 : (0 ≤ x1 ∧ x1 < (I 110 7)) → ((0 ≤ x2 ∧ x2 ≤ 1) ∧ (0 ≤ x3 ∧ x3 ≤ 25)) → WA X (mC P O I A J) pl (k1 + 1 + 1) (k2 + 6 + 6) 17 [(0, .ref 100), (1, .int x1), (2, .int x2), (3, .int x3)] [.int x3, .int x2, .int x1, .ref 110]) :
    WA X (mC P O I A J) pl k1 k2 0 [(0, .ref 100), (1, .int x1), (2, .int x2), (3, .int x3)] [] := by
  refine a_aload_n F 0 dX11_result_0 rfl rfl ?_
  refine a_iload_n F 1 dX11_result_1 rfl rfl ?_
  refine a_callVX (b := 100) (As := [.int x1]) (st := []) (ci := 11) F S T (c_11_checkResult (xl X) T.1 hP I A J hB x1) ml_11_163 im_yX11_checkResult se_yX11_checkResult (by decide) (by decide) rfl (hB _ (by decide)) rfl rfl dX11_result_2 (by decide) (by omega) (by omega) (hl_r (hB _ (by decide)) (hl_i (hl_i (hl_i hl_nil)))) hs_nil (by rintro _ _ _ ⟨rfl, rfl, rfl, c⟩ _; exact e_1 c) ?_
  rintro _ _ _ ⟨rfl, rfl, rfl, c_1⟩ _
  show WA X (mC P O I A J) pl (k1 + 1) (k2 + 6) 5 [(0, .ref 100), (1, .int x1), (2, .int x2), (3, .int x3)] []
  refine a_iload_n F 2 dX11_result_5 rfl rfl ?_
  refine a_iload_n F 3 dX11_result_6 rfl rfl ?_
  refine a_callSX (As := [.int x2, .int x3]) (st := []) F S T (c_11_checkPlace (xl X) T.1 hP I A J hB x2 x3) ml_11_126 sm_yX11_checkPlace (by decide) rfl dX11_result_7 (by decide) (by omega) (by omega) (hl_r (hB _ (by decide)) (hl_i (hl_i (hl_i hl_nil)))) hs_nil (by rintro _ _ _ ⟨rfl, rfl, rfl, c⟩ _; exact e_2 c_1 c) ?_
  rintro _ _ _ ⟨rfl, rfl, rfl, c_2⟩ _
  show WA X (mC P O I A J) pl (k1 + 1 + 1) (k2 + 6 + 6) 10 [(0, .ref 100), (1, .int x1), (2, .int x2), (3, .int x3)] []
  refine a_aload_n F 0 dX11_result_10 rfl rfl ?_
  refine a_getr (b := 110) F fl_11_56 rfl (hB _ (by decide)) rfl ((hP 100 6 (by decide)).trans rfl) dX11_result_11 ?_
  refine a_iload_n F 1 dX11_result_14 rfl rfl ?_
  refine a_iload_n F 2 dX11_result_15 rfl rfl ?_
  refine a_iload_n F 3 dX11_result_16 rfl rfl ?_
  exact e_3 c_1 c_2

theorem tb_cnt {P : Nat → Nat → Option Nat} {I A : Nat → Nat → Int32} {J : Nat → Nat → Int64} {pl : List Nat} {m : Nat} {τ : TB} (h : tbS P I A J pl m τ) : τ.2.1 ≤ 3072 := by
  have h1 := h.1.1
  have h2 := h.2.2.2.2.2.2.1
  have h3 : 2 ^ τ.2.2.2.2 ≤ 2 ^ 6 := Nat.pow_le_pow_right (by decide) h1
  omega
set_option maxRecDepth 10000 in
theorem c_11_result (l : Launch) (hst : l.stackTraces = false) {P O : Nat → Nat → Option Nat} (hP : laP P) (I A : Nat → Nat → Int32) (J : Nat → Nat → Int64) {pl : List Nat} (hB : inB pl) (x u v : Int32) {m : Nat} {τ : TB} (hm : m ≤ 1) (ht : tbS P I A J pl m τ) : ConX l 18 yX11_result cX11_result 4 (some .int) [.ref 100, .int x, .int u, .int v] (mC P O I A J) pl 6 36 (fun r σ' pl' => (0 ≤ x ∧ x < I 110 7) ∧ ((0 ≤ u ∧ u ≤ 1) ∧ (0 ≤ v ∧ v ≤ 25)) ∧ r = some (.int (nI (τ.2.2.1 x.toNatClampNeg (26 * u.toNatClampNeg + v.toNatClampNeg)))) ∧ σ' = mC P O I A J ∧ pl = pl') (fun E σ' pl' => σ' = mC P O I A J ∧ pl = pl' ∧ ((E = nsN ∧ ¬ (0 ≤ x ∧ x < I 110 7)) ∨ (E = "java/lang/IndexOutOfBoundsException" ∧ (0 ≤ x ∧ x < I 110 7) ∧ ¬ ((0 ≤ u ∧ u ≤ 1) ∧ (0 ≤ v ∧ v ≤ 25))))) := by
  refine ConX.of hst (by decide) (Nat.le_of_ble_eq_true rfl) (fun X hX9 hn9 F E S T => ?_)
  refine r_11_result_0 F S T (by decide) (by decide) hP hB (fun h => ⟨rfl, rfl, Or.inl ⟨rfl, h⟩⟩) (fun h1 h2 => ⟨rfl, rfl, Or.inr ⟨rfl, h1, h2⟩⟩) (fun h1 h2 => ?_)
  have e7 := ht.2.2.2.2.2.1
  have cb := tb_cnt ht
  obtain ⟨i, hi, ei⟩ := nI_of2 (x := x) (M := nI τ.2.1) (n := τ.2.1) (nI_toInt (by omega)) (by grind) (by rw [← e7]; grind)
  obtain ⟨a, ha, ea⟩ := nI_of2 (x := u) (M := 1) (n := 1) rfl (by grind) h2.1.2
  obtain ⟨b, hb, eb⟩ := nI_of2 (x := v) (M := 25) (n := 25) rfl (by grind) h2.2.2
  subst ei; subst ea; subst eb
  have hi2 : i < τ.2.1 := by have := h1.2; rw [e7] at this; exact (nI_ltI (by omega) (by omega)).mp this
  refine a_callV (b := 110) (As := [.int (nI i), .int (nI a), .int (nI b)]) (st := []) (ci := 6) F (c_6_menOf (xl X) hP I A J hB m i a b τ hm ht hi2 ha hb) ml_11_166 im_yX6_menOf se_yX6_menOf (by decide) (by decide) rfl (hB _ (by decide)) rfl rfl dX11_result_17 (by decide) (by omega) (by omega) (hl_r (hB _ (by decide)) (hl_i (hl_i (hl_i hl_nil)))) hs_nil ?_
  rintro _ _ _ ⟨rfl, rfl, rfl⟩ _
  refine a_iret F E dX11_result_20 (by omega) (by omega) ⟨h1, h2, ?_, rfl, rfl⟩
  rw [nI_clamp (by omega), nI_clamp (by omega), nI_clamp (by omega)]

theorem r_11_way_0 {X : Ctx} {mc ms k1 k2 : Nat} (F : Fx X cX11_way RX11 3 18 mc ms) (S : SXX X) {Ψx : String → HS → List Nat → Prop} (T : Tx X mc ms Ψx) (hk1 : k1 + 6 ≤ mc) (hk2 : k2 + 36 ≤ ms) {P O : Nat → Nat → Option Nat} (hP : laP P) {I A : Nat → Nat → Int32} {J : Nat → Nat → Int64} {pl : List Nat} (hB : inB pl) {x1 x2 : Int32}
    (e_1 : ¬ (0 ≤ x1 ∧ x1 < (I 110 7)) → Ψx nsN (mC P O I A J) pl)
    (e_2 : (0 ≤ x1 ∧ x1 < (I 110 7)) → WA X (mC P O I A J) pl (k1 + 1) (k2 + 6) 11 [(0, .ref 100), (1, .int x1), (2, .int x2)] [.int x2, .int x1, .ref 110]) :
    WA X (mC P O I A J) pl k1 k2 0 [(0, .ref 100), (1, .int x1), (2, .int x2)] [] := by
  refine a_aload_n F 0 dX11_way_0 rfl rfl ?_
  refine a_iload_n F 1 dX11_way_1 rfl rfl ?_
  refine a_callVX (b := 100) (As := [.int x1]) (st := []) (ci := 11) F S T (c_11_checkResult (xl X) T.1 hP I A J hB x1) ml_11_163 im_yX11_checkResult se_yX11_checkResult (by decide) (by decide) rfl (hB _ (by decide)) rfl rfl dX11_way_2 (by decide) (by omega) (by omega) (hl_r (hB _ (by decide)) (hl_i (hl_i hl_nil))) hs_nil (by rintro _ _ _ ⟨rfl, rfl, rfl, c⟩ _; exact e_1 c) ?_
  rintro _ _ _ ⟨rfl, rfl, rfl, c_1⟩ _
  show WA X (mC P O I A J) pl (k1 + 1) (k2 + 6) 5 [(0, .ref 100), (1, .int x1), (2, .int x2)] []
  refine a_aload_n F 0 dX11_way_5 rfl rfl ?_
  refine a_getr (b := 110) F fl_11_56 rfl (hB _ (by decide)) rfl ((hP 100 6 (by decide)).trans rfl) dX11_way_6 ?_
  refine a_iload_n F 1 dX11_way_9 rfl rfl ?_
  refine a_iload_n F 2 dX11_way_10 rfl rfl ?_
  exact e_2 c_1

set_option maxRecDepth 10000 in
theorem c_11_way (l : Launch) (hst : l.stackTraces = false) {P O : Nat → Nat → Option Nat} (hP : laP P) (I A : Nat → Nat → Int32) (J : Nat → Nat → Int64) {pl : List Nat} (hB : inB pl) (x k : Int32) {m : Nat} {τ : TB} (ht : tbS P I A J pl m τ) : ConX l 18 yX11_way cX11_way 3 (some .int) [.ref 100, .int x, .int k] (mC P O I A J) pl 6 36 (fun r σ' pl' => (0 ≤ x ∧ x < I 110 7) ∧ r = some (.int (mvO (τ.2.2.2.1 x.toNatClampNeg) k)) ∧ σ' = mC P O I A J ∧ pl = pl') (fun E σ' pl' => E = nsN ∧ σ' = mC P O I A J ∧ pl = pl' ∧ ¬ (0 ≤ x ∧ x < I 110 7)) := by
  refine ConX.of hst (by decide) (Nat.le_of_ble_eq_true rfl) (fun X hX9 hn9 F E S T => ?_)
  refine r_11_way_0 F S T (by decide) (by decide) hP hB (fun h => ⟨rfl, rfl, rfl, h⟩) (fun h1 => ?_)
  have e7 := ht.2.2.2.2.2.1
  have cb := tb_cnt ht
  obtain ⟨i, hi, ei⟩ := nI_of2 (x := x) (M := nI τ.2.1) (n := τ.2.1) (nI_toInt (by omega)) (by grind) (by rw [← e7]; grind)
  subst ei
  have hi2 : i < τ.2.1 := by have := h1.2; rw [e7] at this; exact (nI_ltI (by omega) (by omega)).mp this
  refine a_callV (b := 110) (As := [.int (nI i), .int k]) (st := []) (ci := 6) F (c_6_moveOf (xl X) hP I A J hB m i k τ ht hi2) ml_11_170 im_yX6_moveOf se_yX6_moveOf (by decide) (by decide) rfl (hB _ (by decide)) rfl rfl dX11_way_11 (by decide) (by omega) (by omega) (hl_r (hB _ (by decide)) (hl_i (hl_i hl_nil))) hs_nil ?_
  rintro _ _ _ ⟨rfl, rfl, rfl⟩ _
  refine a_iret F E dX11_way_14 (by omega) (by omega) ⟨h1, ?_, rfl, rfl⟩
  rw [nI_clamp (by omega)]

theorem r_11_plays_0 {X : Ctx} {mc ms k1 k2 : Nat} (F : Fx X cX11_plays RX11 3 18 mc ms) (S : SXX X) {Ψx : String → HS → List Nat → Prop} (T : Tx X mc ms Ψx) (hk1 : k1 + 6 ≤ mc) (hk2 : k2 + 36 ≤ ms) {P O : Nat → Nat → Option Nat} (hP : laP P) {I A : Nat → Nat → Int32} {J : Nat → Nat → Int64} {pl : List Nat} (hB : inB pl) {x1 x2 : Int32}
    (e_1 : ¬ ((1 ≤ x1 ∧ x1 ≤ 6) ∧ (1 ≤ x2 ∧ x2 ≤ 6)) → Ψx "java/lang/IllegalArgumentException" (mC P O I A J) pl)
    (e_2 : ((1 ≤ x1 ∧ x1 ≤ 6) ∧ (1 ≤ x2 ∧ x2 ≤ 6)) → ¬ (undC I → dueC I x1 x2) → Ψx "java/lang/IllegalStateException" (mC P O I A J) pl)
    (e_3 : ((1 ≤ x1 ∧ x1 ≤ 6) ∧ (1 ≤ x2 ∧ x2 ≤ 6)) → (undC I → dueC I x1 x2) → WA X (mC P O I A J) pl (k1 + 1 + 1) (k2 + 6 + 6) 17 [(0, .ref 100), (1, .int x1), (2, .int x2)] [.int x2, .int x1, .ref 110]) :
    WA X (mC P O I A J) pl k1 k2 0 [(0, .ref 100), (1, .int x1), (2, .int x2)] [] := by
  refine a_iload_n F 1 dX11_plays_0 rfl rfl ?_
  refine a_iload_n F 2 dX11_plays_1 rfl rfl ?_
  refine a_callSX (As := [.int x1, .int x2]) (st := []) F S T (c_11_checkDice (xl X) T.1 hP I A J hB x1 x2) ml_11_154 sm_yX11_checkDice (by decide) rfl dX11_plays_2 (by decide) (by omega) (by omega) (hl_r (hB _ (by decide)) (hl_i (hl_i hl_nil))) hs_nil (by rintro _ _ _ ⟨rfl, rfl, rfl, c⟩ _; exact e_1 c) ?_
  rintro _ _ _ ⟨rfl, rfl, rfl, c_1⟩ _
  show WA X (mC P O I A J) pl (k1 + 1) (k2 + 6) 5 [(0, .ref 100), (1, .int x1), (2, .int x2)] []
  refine a_aload_n F 0 dX11_plays_5 rfl rfl ?_
  refine a_iload_n F 1 dX11_plays_6 rfl rfl ?_
  refine a_iload_n F 2 dX11_plays_7 rfl rfl ?_
  refine a_callVX (b := 100) (As := [.int x1, .int x2]) (st := []) (ci := 11) F S T (c_11_checkDue (xl X) T.1 hP I A J hB x1 x2) ml_11_157 im_yX11_checkDue se_yX11_checkDue (by decide) (by decide) rfl (hB _ (by decide)) rfl rfl dX11_plays_8 (by decide) (by omega) (by omega) (hl_r (hB _ (by decide)) (hl_i (hl_i hl_nil))) hs_nil (by rintro _ _ _ ⟨rfl, rfl, rfl, c⟩ _; exact e_2 c_1 c) ?_
  rintro _ _ _ ⟨rfl, rfl, rfl, c_2⟩ _
  show WA X (mC P O I A J) pl (k1 + 1 + 1) (k2 + 6 + 6) 11 [(0, .ref 100), (1, .int x1), (2, .int x2)] []
  refine a_aload_n F 0 dX11_plays_11 rfl rfl ?_
  refine a_getr (b := 110) F fl_11_56 rfl (hB _ (by decide)) rfl ((hP 100 6 (by decide)).trans rfl) dX11_plays_12 ?_
  refine a_iload_n F 1 dX11_plays_15 rfl rfl ?_
  refine a_iload_n F 2 dX11_plays_16 rfl rfl ?_
  exact e_3 c_1 c_2

theorem r_11_plays_20b {X : Ctx} {mc ms k1 k2 : Nat} (F : Fx X cX11_plays RX11 3 18 mc ms) (S : SXX X) {Ψx : String → HS → List Nat → Prop} (T : Tx X mc ms Ψx) (hk1 : k1 + 6 ≤ mc) (hk2 : k2 + 36 ≤ ms) {Φ : Option Value → HS → List Nat → Prop} (E : Ex X (some .int) mc ms Φ) {P O : Nat → Nat → Option Nat} (hP : laP P) {I A : Nat → Nat → Int32} {J : Nat → Nat → Int64} {pl : List Nat} (hB : inB pl) {x1 x2 : Int32}
    (e_1 : Φ (some (.int (I 110 7))) (mC P O I A J) pl) :
    WA X (mC P O I A J) pl k1 k2 20 [(0, .ref 100), (1, .int x1), (2, .int x2)] [] := by
  refine a_aload_n F 0 dX11_plays_20 rfl rfl ?_
  refine a_getr (b := 110) F fl_11_56 rfl (hB _ (by decide)) rfl ((hP 100 6 (by decide)).trans rfl) dX11_plays_21 ?_
  refine a_geti F fl_11_144 rfl (hB _ (by decide)) rfl dX11_plays_24 ?_
  exact a_iret F E dX11_plays_27 (by omega) (by omega) (e_1)

theorem dice_n {a b : Int32} (h : (1 ≤ a ∧ a ≤ 6) ∧ (1 ≤ b ∧ b ≤ 6)) : ∃ x y, a = nI x ∧ b = nI y ∧ (1 ≤ x ∧ x ≤ 6) ∧ (1 ≤ y ∧ y ≤ 6) := by
  obtain ⟨x, hx, ex⟩ := nI_of2 (x := a) (M := 6) (n := 6) rfl (by grind) h.1.2
  obtain ⟨y, hy, ey⟩ := nI_of2 (x := b) (M := 6) (n := 6) rfl (by grind) h.2.2
  subst ex; subst ey
  exact ⟨x, y, rfl, rfl, ⟨(nI_gen 1 (by omega) (by omega)).mp h.1.1, hx⟩, (nI_gen 1 (by omega) (by omega)).mp h.2.1, hy⟩
/-- a cost that is paid under a condition -/
noncomputable def gN (c : Prop) (n : Nat) : Nat := @ite Nat c (Classical.propDecidable _) n 0
theorem gN_t {c : Prop} {n : Nat} (h : c) : gN c n = n := if_pos h
theorem gN_f {c : Prop} {n : Nat} (h : ¬ c) : gN c n = 0 := if_neg h
set_option maxRecDepth 10000 in
theorem c_11_plays (l : Launch) (hst : l.stackTraces = false) {P O : Nat → Nat → Option Nat} (hP : laP P) (I A : Nat → Nat → Int32) (J : Nat → Nat → Int64) {pl : List Nat} (hB : inB pl) (a b : Int32) {m g : Nat} {B : Nat → Nat} (hm : m ≤ 1) (hok : okB B) (hC : clC P O pl) (hr : rtP P pl g) (hb : bdR (A 131) 0 B) (hI : I 130 1 = nI m) : ConX l 18 yX11_plays cX11_plays 3 (some .int) [.ref 100, .int a, .int b] (mC P O I A J) pl (8 + gN (((1 ≤ a ∧ a ≤ 6) ∧ (1 ≤ b ∧ b ≤ 6)) ∧ (undC I → dueC I a b)) (2 * ((wkF m (min a.toNatClampNeg b.toNatClampNeg) (max a.toNatClampNeg b.toNatClampNeg) B g).2.2.2.2 - g))) (60 + gN (((1 ≤ a ∧ a ≤ 6) ∧ (1 ≤ b ∧ b ≤ 6)) ∧ (undC I → dueC I a b)) (576 * (2 ^ (wkF m (min a.toNatClampNeg b.toNatClampNeg) (max a.toNatClampNeg b.toNatClampNeg) B g).2.2.2.2 - 2 ^ g))) (fun r σ' pl' => ((1 ≤ a ∧ a ≤ 6) ∧ (1 ≤ b ∧ b ≤ 6)) ∧ (undC I → dueC I a b) ∧ r = some (.int (nI (wkF m (min a.toNatClampNeg b.toNatClampNeg) (max a.toNatClampNeg b.toNatClampNeg) B g).2.1)) ∧ gsQ P O I A J pl m B (wkF m (min a.toNatClampNeg b.toNatClampNeg) (max a.toNatClampNeg b.toNatClampNeg) B g) none σ' pl') (fun E σ' pl' => σ' = mC P O I A J ∧ pl = pl' ∧ ((E = "java/lang/IllegalArgumentException" ∧ ¬ ((1 ≤ a ∧ a ≤ 6) ∧ (1 ≤ b ∧ b ≤ 6))) ∨ (E = "java/lang/IllegalStateException" ∧ ((1 ≤ a ∧ a ≤ 6) ∧ (1 ≤ b ∧ b ≤ 6)) ∧ ¬ (undC I → dueC I a b)))) := by
  refine ConX.of hst (by decide) (Nat.le_of_ble_eq_true rfl) (fun X hX9 hn9 F E S T => ?_)
  refine r_11_plays_0 F S T (by omega) (by omega) hP hB (fun h => ⟨rfl, rfl, Or.inl ⟨rfl, h⟩⟩) (fun h1 h2 => ⟨rfl, rfl, Or.inr ⟨rfl, h1, h2⟩⟩) (fun h1 h2 => ?_)
  rw [gN_t ⟨h1, h2⟩, gN_t ⟨h1, h2⟩] at F E T
  obtain ⟨x, y, rfl, rfl, hx, hy⟩ := dice_n h1
  have ex : (nI x).toNatClampNeg = x := nI_clamp (by omega)
  have ey : (nI y).toNatClampNeg = y := nI_clamp (by omega)
  rw [ex, ey] at F E T
  refine a_callV (b := 110) (As := [.int (nI x), .int (nI y)]) (st := []) (ci := 6) F (c_6_workOut (xl X) hP I A J hB m x y g B hm hx hy hok hC hr hb hI) ml_11_160 im_yX6_workOut se_yX6_workOut (by decide) (by decide) rfl (hB _ (by decide)) rfl rfl dX11_plays_17 (by decide) (by omega) (by omega) (hl_r (hB _ (by decide)) (hl_i (hl_i hl_nil))) hs_nil ?_
  rintro r1 σ1 pl1 ⟨rfl, P1, I1, A1, J1, rfl, hz, hC1, ht1, hb1⟩ _
  refine r_11_plays_20b F S T (by omega) (by omega) E (hz.la hP) (hz.b hB) ?_
  exact ⟨h1, h2, by rw [ht1.2.2.2.2.2.1], rfl, P1, I1, A1, J1, rfl, hz, hC1, ht1, hb1⟩

theorem r_11_choose_0 {X : Ctx} {mc ms k1 k2 : Nat} (F : Fx X cX11_choose RX11 3 18 mc ms) (S : SXX X) {Ψx : String → HS → List Nat → Prop} (T : Tx X mc ms Ψx) (hk1 : k1 + 6 ≤ mc) (hk2 : k2 + 36 ≤ ms) {P O : Nat → Nat → Option Nat} (hP : laP P) {I A : Nat → Nat → Int32} {J : Nat → Nat → Int64} {pl : List Nat} (hB : inB pl) {x1 : Int32}
    (e_1 : ¬ (0 ≤ x1 ∧ x1 < (I 110 7)) → Ψx nsN (mC P O I A J) pl)
    (e_2 : (0 ≤ x1 ∧ x1 < (I 110 7)) → (undC I) → WA X (mC P O I A J) pl (k1 + 1) (k2 + 6) 33 [(2, .int 1), (0, .ref 100), (1, .int x1)] [.int x1, .ref 110])
    (e_3 : (0 ≤ x1 ∧ x1 < (I 110 7)) → (¬ (undC I)) → WA X (mC P O I A J) pl (k1 + 1) (k2 + 6) 25 [(2, .int 0), (0, .ref 100), (1, .int x1)] [.ref 130, .ref 102]) :
    WA X (mC P O I A J) pl k1 k2 0 [(0, .ref 100), (1, .int x1)] [] := by
  refine a_aload_n F 0 dX11_choose_0 rfl rfl ?_
  refine a_iload_n F 1 dX11_choose_1 rfl rfl ?_
  refine a_callVX (b := 100) (As := [.int x1]) (st := []) (ci := 11) F S T (c_11_checkResult (xl X) T.1 hP I A J hB x1) ml_11_163 im_yX11_checkResult se_yX11_checkResult (by decide) (by decide) rfl (hB _ (by decide)) rfl rfl dX11_choose_2 (by decide) (by omega) (by omega) (hl_r (hB _ (by decide)) (hl_i hl_nil)) hs_nil (by rintro _ _ _ ⟨rfl, rfl, rfl, c⟩ _; exact e_1 c) ?_
  rintro _ _ _ ⟨rfl, rfl, rfl, c_1⟩ _
  show WA X (mC P O I A J) pl (k1 + 1) (k2 + 6) 5 [(0, .ref 100), (1, .int x1)] []
  refine a_aload_n F 0 dX11_choose_5 rfl rfl ?_
  refine a_getr (b := 114) F fl_11_63 rfl (hB _ (by decide)) rfl ((hP 100 7 (by decide)).trans rfl) dX11_choose_6 ?_
  refine a_callV (b := 114) (As := []) (st := []) (ci := 2) F (c_2_isUnderWay (xl X) hP I A J hB) ml_11_95 im_yX2_isUnderWay se_yX2_isUnderWay (by decide) (by decide) rfl (hB _ (by decide)) rfl rfl dX11_choose_9 (by decide) (by omega) (by omega) (hl_r (hB _ (by decide)) (hl_i hl_nil)) hs_nil ?_
  rintro _ _ _ ⟨rfl, rfl, rfl⟩ _
  show WA X (mC P O I A J) pl (k1 + 1) (k2 + 6) 12 [(0, .ref 100), (1, .int x1)] [.int (@ite Int32 (undC I) (Classical.propDecidable _) 1 0)]
  refine a_ite (fun (c_2 : undC I) => ?_) (fun (c_2 : ¬ (undC I)) => ?_)
  · refine a_istore_n F dX11_choose_12 rfl (by decide) rfl ?_
    refine a_iload_n F 0 dX11_choose_13 rfl rfl ?_
    refine a_if_ne (tgt := 28) F dX11_choose_14 (by decide) (fun (c_3 : ¬ (1 : Int32) = 0) => ?_) (fun (c_3 : (1 : Int32) = 0) => ?_)
    · refine a_aload_n F 1 dX11_choose_28 rfl rfl ?_
      refine a_getr (b := 110) F fl_11_56 rfl (hB _ (by decide)) rfl ((hP 100 6 (by decide)).trans rfl) dX11_choose_29 ?_
      refine a_iload_n F 2 dX11_choose_32 rfl rfl ?_
      exact e_2 c_1 c_2
    · exact absurd c_3 (by decide)
  · refine a_istore_n F dX11_choose_12 rfl (by decide) rfl ?_
    refine a_iload_n F 0 dX11_choose_13 rfl rfl ?_
    refine a_if_ne (tgt := 28) F dX11_choose_14 (by decide) (fun (c_4 : ¬ (0 : Int32) = 0) => ?_) (fun (c_4 : (0 : Int32) = 0) => ?_)
    · exact absurd c_4 (by decide)
    · refine a_aload_n F 1 dX11_choose_17 rfl rfl ?_
      refine a_getr (b := 102) F fl_11_29 rfl (hB _ (by decide)) rfl ((hP 100 3 (by decide)).trans rfl) dX11_choose_18 ?_
      refine a_aload_n F 1 dX11_choose_21 rfl rfl ?_
      refine a_getr (b := 130) F fl_11_22 rfl (hB _ (by decide)) rfl ((hP 100 2 (by decide)).trans rfl) dX11_choose_22 ?_
      exact e_3 c_1 c_2

theorem r_11_choose_28b {X : Ctx} {mc ms k1 k2 : Nat} (F : Fx X cX11_choose RX11 3 18 mc ms) (S : SXX X) {Ψx : String → HS → List Nat → Prop} (T : Tx X mc ms Ψx) (hk1 : k1 + 6 ≤ mc) (hk2 : k2 + 36 ≤ ms) {P O : Nat → Nat → Option Nat} (hP : laP P) {I A : Nat → Nat → Int32} {J : Nat → Nat → Int64} {pl : List Nat} (hB : inB pl) {x1 x2 : Int32}
    (e_1 : WA X (mC P O I A J) pl k1 k2 33 [(0, .ref 100), (1, .int x1), (2, .int x2)] [.int x1, .ref 110]) :
    WA X (mC P O I A J) pl k1 k2 28 [(0, .ref 100), (1, .int x1), (2, .int x2)] [] := by
  refine a_aload_n F 0 dX11_choose_28 rfl rfl ?_
  refine a_getr (b := 110) F fl_11_56 rfl (hB _ (by decide)) rfl ((hP 100 6 (by decide)).trans rfl) dX11_choose_29 ?_
  refine a_iload_n F 1 dX11_choose_32 rfl rfl ?_
  exact e_1

theorem r_11_choose_36c {X : Ctx} {mc ms k1 k2 : Nat} (F : Fx X cX11_choose RX11 3 18 mc ms) (S : SXX X) {Ψx : String → HS → List Nat → Prop} (T : Tx X mc ms Ψx) (hk1 : k1 + 6 ≤ mc) (hk2 : k2 + 36 ≤ ms) {P O : Nat → Nat → Option Nat} (hP : laP P) {I A : Nat → Nat → Int32} {J : Nat → Nat → Int64} {pl : List Nat} (hB : inB pl) {x1 x2 : Int32}
    (e_1 : WA X (mC P O I A J) pl k1 k2 40 [(0, .ref 100), (1, .int x1), (2, .int x2)] [.ref 110]) :
    WA X (mC P O I A J) pl k1 k2 36 [(0, .ref 100), (1, .int x1), (2, .int x2)] [] := by
  refine a_aload_n F 0 dX11_choose_36 rfl rfl ?_
  refine a_getr (b := 110) F fl_11_56 rfl (hB _ (by decide)) rfl ((hP 100 6 (by decide)).trans rfl) dX11_choose_37 ?_
  exact e_1

theorem r_11_choose_43d {X : Ctx} {mc ms k1 k2 : Nat} (F : Fx X cX11_choose RX11 3 18 mc ms) (S : SXX X) {Ψx : String → HS → List Nat → Prop} (T : Tx X mc ms Ψx) (hk1 : k1 + 6 ≤ mc) (hk2 : k2 + 36 ≤ ms) {Φ : Option Value → HS → List Nat → Prop} (E : Ex X (some .int) mc ms Φ) {P O : Nat → Nat → Option Nat} (hP : laP P) {I A : Nat → Nat → Int32} {J : Nat → Nat → Int64} {pl : List Nat} (hB : inB pl) {x1 x2 : Int32}
    (e_1 : (x2 = 0) → Φ (some (.int (I 130 1))) (mC P O I A J) pl)
    (e_2 : (¬ (x2 = 0)) → WA X (mC P O I A J) pl k1 k2 55 [(0, .ref 100), (1, .int x1), (2, .int x2)] [.ref 130, .ref 114]) :
    WA X (mC P O I A J) pl k1 k2 43 [(0, .ref 100), (1, .int x1), (2, .int x2)] [] := by
  refine a_iload_n F 2 dX11_choose_43 rfl rfl ?_
  refine a_if_eq (tgt := 58) F dX11_choose_44 (by decide) (fun (c_5 : x2 = 0) => ?_) (fun (c_5 : ¬ (x2 = 0)) => ?_)
  · refine a_aload_n F 0 dX11_choose_58 rfl rfl ?_
    refine a_getr (b := 130) F fl_11_22 rfl (hB _ (by decide)) rfl ((hP 100 2 (by decide)).trans rfl) dX11_choose_59 ?_
    refine a_geti F fl_11_134 rfl (hB _ (by decide)) rfl dX11_choose_62 ?_
    exact a_iret F E dX11_choose_65 (by omega) (by omega) (e_1 c_5)
  · refine a_aload_n F 0 dX11_choose_47 rfl rfl ?_
    refine a_getr (b := 114) F fl_11_63 rfl (hB _ (by decide)) rfl ((hP 100 7 (by decide)).trans rfl) dX11_choose_48 ?_
    refine a_aload_n F 0 dX11_choose_51 rfl rfl ?_
    refine a_getr (b := 130) F fl_11_22 rfl (hB _ (by decide)) rfl ((hP 100 2 (by decide)).trans rfl) dX11_choose_52 ?_
    exact e_2 c_5

theorem r_11_choose_58e {X : Ctx} {mc ms k1 k2 : Nat} (F : Fx X cX11_choose RX11 3 18 mc ms) (S : SXX X) {Ψx : String → HS → List Nat → Prop} (T : Tx X mc ms Ψx) (hk1 : k1 + 6 ≤ mc) (hk2 : k2 + 36 ≤ ms) {Φ : Option Value → HS → List Nat → Prop} (E : Ex X (some .int) mc ms Φ) {P O : Nat → Nat → Option Nat} (hP : laP P) {I A : Nat → Nat → Int32} {J : Nat → Nat → Int64} {pl : List Nat} (hB : inB pl) {x1 x2 : Int32}
    (e_1 : Φ (some (.int (I 130 1))) (mC P O I A J) pl) :
    WA X (mC P O I A J) pl k1 k2 58 [(0, .ref 100), (1, .int x1), (2, .int x2)] [] := by
  refine a_aload_n F 0 dX11_choose_58 rfl rfl ?_
  refine a_getr (b := 130) F fl_11_22 rfl (hB _ (by decide)) rfl ((hP 100 2 (by decide)).trans rfl) dX11_choose_59 ?_
  refine a_geti F fl_11_134 rfl (hB _ (by decide)) rfl dX11_choose_62 ?_
  exact a_iret F E dX11_choose_65 (by omega) (by omega) (e_1)

theorem gn_ex {P O : Nat → Nat → Option Nat} {I A : Nat → Nat → Int32} {J : Nat → Nat → Int64} {pl : List Nat} {r : Nat → Int32} {rv : Option Value} {σ' : HS} {pl' : List Nat} (h : gnQ P O I A J pl r rv σ' pl') : rv = none ∧ pl = pl' ∧ ∃ I' A', σ' = mC P O I' A' J ∧ (∀ q k, q ≠ 114 → I' q k = I q k) ∧ (∀ q, q ≠ 115 → A' q = A q) := by
  obtain ⟨h1, h2, h3⟩ := h
  have eb : ∀ (I : Nat → Nat → Int32) w v sc q k, q ≠ 114 → eCI I w v sc q k = I q k := fun I w v sc q k hq => by
    unfold eCI eBI
    repeat' split
    all_goals (try unfold eAI)
    all_goals simp only [up2_p hq]
  have ed : ∀ (I : Nat → Nat → Int32) a b q k, q ≠ 114 → diceI I a b q k = I q k := fun I a b q k hq => by unfold diceI; rw [up2_p hq, up2_p hq]
  by_cases c : r 0 = 15
  · obtain ⟨e1, e2, e3⟩ := h1 c
    exact ⟨e1, e3, _, _, e2, fun q k hq => by rw [eb _ _ _ _ q k hq, ed _ _ _ q k hq], fun q hq => by unfold eCA; rw [up1_p hq]⟩
  · by_cases c2 : r 26 = 15
    · obtain ⟨e1, e2, e3⟩ := h2 c c2
      exact ⟨e1, e3, _, _, e2, fun q k hq => by rw [eb _ _ _ _ q k hq, ed _ _ _ q k hq], fun q hq => by unfold eCA; rw [up1_p hq]⟩
    · obtain ⟨e1, e2, e3⟩ := h3 c c2
      exact ⟨e1, e3, _, _, e2, fun q k hq => by rw [up2_p hq, ed _ _ _ q k hq], fun q hq => rfl⟩
set_option maxRecDepth 10000 in
theorem c_11_choose (l : Launch) (hst : l.stackTraces = false) {P O : Nat → Nat → Option Nat} (hP : laP P) (I A : Nat → Nat → Int32) (J : Nat → Nat → Int64) {pl : List Nat} (hB : inB pl) (x : Int32) (hd c : Nat) (hF : laF P) (hC : clC P O pl) (hO : bdO O pl) (hhd : hd < 8) (hc : c ≤ 8) (h1p : I 102 1 = nI hd) (h2p : I 102 2 = nI c) {m : Nat} {τ : TB} (hm : m ≤ 1) (ht : tbS P I A J pl m τ) : ConX l 18 yX11_choose cX11_choose 3 (some .int) [.ref 100, .int x] (mC P O I A J) pl 10 100 (fun r σ' pl' => (0 ≤ x ∧ x < I 110 7) ∧ r = some (.int (nI (1 - m))) ∧ (undC I → ∃ r', bdR r' 0 (τ.2.2.1 x.toNatClampNeg) ∧ gnQ P O (up2 (up2 I 130 1 (nI (1 - m))) 110 7 0) (up1 A 131 r') J pl r' none σ' pl' ∧ pl = pl') ∧ (¬ undC I → ∃ O2 I2 A2, kpQ P O I A J pl 130 ((hd + 1) % 8) c none (mC P O2 I2 A2 J) pl' ∧ ∃ r', bdR r' 0 (τ.2.2.1 x.toNatClampNeg) ∧ σ' = mC P O2 (up2 (up2 I2 130 1 (nI (1 - m))) 110 7 0) (up1 A2 131 r') J)) (fun E σ' pl' => E = nsN ∧ σ' = mC P O I A J ∧ pl = pl' ∧ ¬ (0 ≤ x ∧ x < I 110 7)) := by
  refine ConX.of hst (by decide) (Nat.le_of_ble_eq_true rfl) (fun X hX9 hn9 F E S T => ?_)
  refine r_11_choose_0 F S T (by decide) (by decide) hP hB (fun h => ⟨rfl, rfl, rfl, h⟩) (fun h1 hu => ?_) (fun h1 hu => ?_)
  all_goals
    have e7 := ht.2.2.2.2.2.1
    have cb := tb_cnt ht
    obtain ⟨i, hi, ei⟩ := nI_of2 (x := x) (M := nI τ.2.1) (n := τ.2.1) (nI_toInt (by omega)) (by grind) (by rw [← e7]; grind)
    subst ei
    have hi2 : i < τ.2.1 := by have := h1.2; rw [e7] at this; exact (nI_ltI (by omega) (by omega)).mp this
    have ec : (nI i).toNatClampNeg = i := nI_clamp (by omega)
    rw [ec] at E
  · refine a_callV (b := 110) (As := [.int (nI i)]) (st := []) (ci := 6) F (c_6_putOnBoard (xl X) hP I A J hB m i τ hm ht hi2) ml_11_173 im_yX6_putOnBoard se_yX6_putOnBoard (by decide) (by decide) rfl (hB _ (by decide)) rfl rfl dX11_choose_33 (by decide) (by omega) (by omega) (hl_i (hl_r (hB _ (by decide)) (hl_i hl_nil))) hs_nil ?_
    rintro _ _ _ ⟨rfl, rfl, r', rfl, hr'⟩ _
    refine a_sub [1, 2, 0] rfl ?_
    refine r_11_choose_36c F S T (by omega) (by omega) hP hB ?_
    have ht3 : tbS P (up2 I 130 1 (nI (1 - m))) (up1 A 131 r') J _ m τ := tbS.cg ht (fun k _ _ => by rw [up2_p (by decide)]) (up1_p (by omega)) rfl
    refine a_callV (b := 110) (As := []) (st := []) (ci := 6) F (c_6_forget (xl X) hP (up2 I 130 1 (nI (1 - m))) (up1 A 131 r') J hB m τ ht3) ml_11_117 im_yX6_forget se_yX6_forget (by decide) (by decide) rfl (hB _ (by decide)) rfl rfl dX11_choose_40 (by decide) (by omega) (by omega) (hl_r (hB _ (by decide)) (hl_i (hl_i hl_nil))) hs_nil ?_
    rintro _ _ _ ⟨rfl, rfl, rfl⟩ _
    refine r_11_choose_43d F S T (by omega) (by omega) E hP hB (fun z => absurd z (by decide)) (fun _ => ?_)
    refine a_callV (b := 114) (As := [.ref 130]) (st := []) (ci := 2) F (c_2_goOn (xl X) hP (up2 (up2 I 130 1 (nI (1 - m))) 110 7 0) (up1 A 131 r') J hB 130 rfl (hB _ (by decide)) (hB _ (by decide)) ⟨_, by rw [up1_s]; exact hr'⟩) ml_11_176 im_yX2_goOn se_yX2_goOn (by decide) (by decide) rfl (hB _ (by decide)) rfl rfl dX11_choose_55 (by decide) (by omega) (by omega) (hl_r (hB _ (by decide)) (hl_i (hl_i hl_nil))) hs_nil ?_
    intro r1 σ1 pl1 hgn _
    obtain ⟨rfl, rfl, I3, A3, rfl, hI3, hA3⟩ := gn_ex hgn
    rw [up1_s] at hgn
    refine r_11_choose_58e F S T (by omega) (by omega) E hP hB ?_
    refine ⟨h1, ?_, fun _ => ⟨r', hr', hgn, rfl⟩, fun z => absurd hu z⟩
    rw [hI3 130 1 (by decide), up2_p (by decide), up2_s]
  · refine a_callVS (b := 102) (As := [.ref 130]) (st := []) (ci := 3) F S.1 (c_3_keep (xl X) hP I A J hB 130 rfl (hB _ (by decide)) (hB _ (by decide)) hd c hF hC hO hhd hc h1p h2p (by decide)) ml_11_110 im_yX3_keep se_yX3_keep (by decide) (by decide) rfl (hB _ (by decide)) rfl rfl dX11_choose_25 (by decide) (by omega) (by omega) (hl_i (hl_r (hB _ (by decide)) (hl_i hl_nil))) hs_nil ?_
    rintro r2 σ2 pl2 hk hsub
    obtain ⟨rfl, O2, I2, A2, rfl, hk2⟩ := hk
    have hB2 : inB pl2 := fun q hq => hsub q (hB q hq)
    have ht2 : tbS P I2 A2 J pl2 m τ := by
      have h0 : tbS P I A J pl2 m τ := ⟨ht.1.up hsub (fun q hq => (hk2.2.2.2.1 q hq).imp id (fun z => Or.inl (by omega))), ht.2⟩
      exact h0.cg (fun k _ _ => hk2.2.2.2.2.2.2.2.2.1 110 k (by decide) (by omega)) (hk2.2.2.2.2.2.2.2.2.2.2.1 _ (by omega)) rfl
    refine a_sub [1, 2, 0] rfl ?_
    refine r_11_choose_28b F S T (by omega) (by omega) hP hB2 ?_
    refine a_callV (b := 110) (As := [.int (nI i)]) (st := []) (ci := 6) F (c_6_putOnBoard (xl X) hP I2 A2 J hB2 m i τ hm ht2 hi2) ml_11_173 im_yX6_putOnBoard se_yX6_putOnBoard (by decide) (by decide) rfl (hB2 _ (by decide)) rfl rfl dX11_choose_33 (by decide) (by omega) (by omega) (hl_r (hB2 _ (by decide)) (hl_i (hl_i hl_nil))) hs_nil ?_
    rintro _ _ _ ⟨rfl, rfl, r', rfl, hr'⟩ _
    refine r_11_choose_36c F S T (by omega) (by omega) hP hB2 ?_
    have ht3 : tbS P (up2 I2 130 1 (nI (1 - m))) (up1 A2 131 r') J _ m τ := tbS.cg ht2 (fun k _ _ => by rw [up2_p (by decide)]) (up1_p (by omega)) rfl
    refine a_callV (b := 110) (As := []) (st := []) (ci := 6) F (c_6_forget (xl X) hP (up2 I2 130 1 (nI (1 - m))) (up1 A2 131 r') J hB2 m τ ht3) ml_11_117 im_yX6_forget se_yX6_forget (by decide) (by decide) rfl (hB2 _ (by decide)) rfl rfl dX11_choose_40 (by decide) (by omega) (by omega) (hl_r (hB2 _ (by decide)) (hl_i (hl_i hl_nil))) hs_nil ?_
    rintro _ _ _ ⟨rfl, rfl, rfl⟩ _
    refine r_11_choose_43d F S T (by omega) (by omega) E hP hB2 (fun _ => ?_) (fun z => absurd rfl z)
    refine ⟨h1, ?_, fun z => absurd z hu, fun _ => ⟨O2, I2, A2, ⟨rfl, O2, I2, A2, rfl, hk2⟩, r', hr', rfl⟩⟩
    rw [up2_p (by decide), up2_s]
