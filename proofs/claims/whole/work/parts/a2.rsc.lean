/-- one told move -/
def gtQ (P O : Nat → Nat → Option Nat) (I A : Nat → Nat → Int32) (J : Nat → Nat → Int64) (pl : List Nat) (m k d f t : Nat) (B : Nat → Nat) : Option Value → HS → List Nat → Prop := fun r σ' pl' => pl = pl' ∧ ((t = f - d ∧ 1 ≤ f ∧ cmP B m f d) → r = some (.int 1) ∧ ∃ r', σ' = mC P O I (up1 (up1 A 131 r') 112 (upd (A 112) k (@ite Int32 (hitP B m f d) (Classical.propDecidable _) 1 0))) J ∧ bdR r' 0 (mvB B m f d)) ∧ (¬ (t = f - d ∧ 1 ≤ f ∧ cmP B m f d) → r = some (.int 0) ∧ σ' = mC P O I A J)
theorem nar_b {p : Prop} : vp_nar .boolean (@ite Int32 p (Classical.propDecidable _) 1 0) = @ite Int32 p (Classical.propDecidable _) 1 0 := by
  by_cases c : p
  · rw [if_pos c]; decide
  · rw [if_neg c]; decide

theorem r_6_goAsTold_0 {X : Ctx} (F : Fx X cX6_goAsTold RX6 6 4 0 0) {Φ : Option Value → HS → List Nat → Prop} (E : Ex X (some .boolean) 0 0 Φ) {P O : Nat → Nat → Option Nat} (hP : laP P) {I A : Nat → Nat → Int32} {J : Nat → Nat → Int64} {pl : List Nat} (hB : inB pl) {qc qo : Nat} (hk_qc : kC qc = 14) (hp_qc : qc ∈ pl) (hc9 : P 110 3 = some qc) (hk_qo : kC qo = 13) (hp_qo : qo ∈ pl) (ho9 : P 110 4 = some qo) {x2 x3 : Int32}
    (o_1 : vp_in x2 8)
    (o_2 : vp_in x2 8)
    (e_3 : (¬ (if ((A 107 x2.toNatClampNeg) - x3) < (0 : Int32) then (0 : Int32) else ((A 107 x2.toNatClampNeg) - x3)) = (A 108 x2.toNatClampNeg)) → Φ (some (.int 0)) (mC P O I A J) pl)
    (e_4 : ((if ((A 107 x2.toNatClampNeg) - x3) < (0 : Int32) then (0 : Int32) else ((A 107 x2.toNatClampNeg) - x3)) = (A 108 x2.toNatClampNeg)) → WA X (mC P O I A J) pl 0 0 36 [(5, .int (A 108 x2.toNatClampNeg)), (4, .int (A 107 x2.toNatClampNeg)), (0, .ref 110), (1, .ref 106), (2, .int x2), (3, .int x3)] [.int x3, .int (A 107 x2.toNatClampNeg), .ref 130]) :
    WA X (mC P O I A J) pl 0 0 0 [(0, .ref 110), (1, .ref 106), (2, .int x2), (3, .int x3)] [] := by
  refine a_aload_n F 1 dX6_goAsTold_0 rfl rfl ?_
  refine a_getr (b := 107) F fl_6_145 rfl (hB _ (by decide)) rfl ((hP 106 2 (by decide)).trans rfl) dX6_goAsTold_1 ?_
  refine a_iload_n F 2 dX6_goAsTold_4 rfl rfl ?_
  refine a_iald F (hB _ (by decide)) rfl (o_1) dX6_goAsTold_5 ?_
  refine a_istore F dX6_goAsTold_6 (by decide) rfl ?_
  refine a_aload_n F 2 dX6_goAsTold_8 rfl rfl ?_
  refine a_getr (b := 108) F fl_6_148 rfl (hB _ (by decide)) rfl ((hP 106 3 (by decide)).trans rfl) dX6_goAsTold_9 ?_
  refine a_iload_n F 3 dX6_goAsTold_12 rfl rfl ?_
  refine a_iald F (hB _ (by decide)) rfl (o_2) dX6_goAsTold_13 ?_
  refine a_istore F dX6_goAsTold_14 (by decide) rfl ?_
  refine a_iload F 1 dX6_goAsTold_16 rfl ?_
  refine a_iload_n F 5 dX6_goAsTold_18 rfl rfl ?_
  refine a_isub F dX6_goAsTold_19 ?_
  refine a_iconst (v := 0) F dX6_goAsTold_20 (by decide) ?_
  refine a_mmax F mxl_6_57 (by decide) (Nat.zero_le _) (Nat.zero_le _) (by decide) dX6_goAsTold_21 ?_
  refine a_iload F 0 dX6_goAsTold_24 rfl ?_
  refine a_icmp_ne (tgt := 42) F dX6_goAsTold_26 (by decide) (fun (c_1 : ¬ (if ((A 107 x2.toNatClampNeg) - x3) < (0 : Int32) then (0 : Int32) else ((A 107 x2.toNatClampNeg) - x3)) = (A 108 x2.toNatClampNeg)) => ?_) (fun (c_1 : (if ((A 107 x2.toNatClampNeg) - x3) < (0 : Int32) then (0 : Int32) else ((A 107 x2.toNatClampNeg) - x3)) = (A 108 x2.toNatClampNeg)) => ?_)
  · refine a_iconst (v := 0) F dX6_goAsTold_42 (by decide) ?_
    exact a_zret F E (by decide) dX6_goAsTold_43 (Nat.le_refl 0) (Nat.le_refl 0) (e_3 c_1)
  · refine a_aload_n F 2 dX6_goAsTold_29 rfl rfl ?_
    refine a_getr (b := 130) F fl_6_26 rfl (hB _ (by decide)) rfl ((hP 110 0 (by decide)).trans rfl) dX6_goAsTold_30 ?_
    refine a_iload F 1 dX6_goAsTold_33 rfl ?_
    refine a_iload_n F 5 dX6_goAsTold_35 rfl rfl ?_
    exact e_4 c_1

theorem r_6_goAsTold_39 {X : Ctx} (F : Fx X cX6_goAsTold RX6 6 4 0 0) {Φ : Option Value → HS → List Nat → Prop} (E : Ex X (some .boolean) 0 0 Φ) {P O : Nat → Nat → Option Nat} (hP : laP P) {I A : Nat → Nat → Int32} {J : Nat → Nat → Int64} {pl : List Nat} (hB : inB pl) {qc qo : Nat} (hk_qc : kC qc = 14) (hp_qc : qc ∈ pl) (hc9 : P 110 3 = some qc) (hk_qo : kC qo = 13) (hp_qo : qo ∈ pl) (ho9 : P 110 4 = some qo) {x2 x3 x4 x5 x9 : Int32}
    (e_1 : (¬ x9 = 0) → WA X (mC P O I A J) pl 0 0 57 [(0, .ref 110), (1, .ref 106), (2, .int x2), (3, .int x3), (4, .int x4), (5, .int x5)] [.int x5, .int x4, .ref 130, .int x2, .ref 112])
    (e_2 : (x9 = 0) → Φ (some (.int 0)) (mC P O I A J) pl) :
    WA X (mC P O I A J) pl 0 0 39 [(0, .ref 110), (1, .ref 106), (2, .int x2), (3, .int x3), (4, .int x4), (5, .int x5)] [.int x9] := by
  refine a_if_ne (tgt := 44) F dX6_goAsTold_39 (by decide) (fun (c_2 : ¬ x9 = 0) => ?_) (fun (c_2 : x9 = 0) => ?_)
  · refine a_aload_n F 0 dX6_goAsTold_44 rfl rfl ?_
    refine a_getr (b := 112) F fl_6_15 rfl (hB _ (by decide)) rfl ((hP 110 2 (by decide)).trans rfl) dX6_goAsTold_45 ?_
    refine a_iload_n F 2 dX6_goAsTold_48 rfl rfl ?_
    refine a_aload_n F 0 dX6_goAsTold_49 rfl rfl ?_
    refine a_getr (b := 130) F fl_6_26 rfl (hB _ (by decide)) rfl ((hP 110 0 (by decide)).trans rfl) dX6_goAsTold_50 ?_
    refine a_iload F 4 dX6_goAsTold_53 rfl ?_
    refine a_iload F 5 dX6_goAsTold_55 rfl ?_
    exact e_1 c_2
  · refine a_iconst (v := 0) F dX6_goAsTold_42 (by decide) ?_
    exact a_zret F E (by decide) dX6_goAsTold_43 (Nat.le_refl 0) (Nat.le_refl 0) (e_2 c_2)

theorem r_6_goAsTold_60 {X : Ctx} (F : Fx X cX6_goAsTold RX6 6 4 0 0) {Φ : Option Value → HS → List Nat → Prop} (E : Ex X (some .boolean) 0 0 Φ) {P O : Nat → Nat → Option Nat} (hP : laP P) {I A : Nat → Nat → Int32} {J : Nat → Nat → Int64} {pl : List Nat} (hB : inB pl) {qc qo : Nat} (hk_qc : kC qc = 14) (hp_qc : qc ∈ pl) (hc9 : P 110 3 = some qc) (hk_qo : kC qo = 13) (hp_qo : qo ∈ pl) (ho9 : P 110 4 = some qo) {x2 x3 x4 x5 x9 : Int32}
    (o_1 : vp_in x2 4)
    (e_2 : Φ (some (.int 1)) (mC P O I (up1 A 112 (upd (A 112) x2.toNatClampNeg (vp_nar .boolean x9))) J) pl) :
    WA X (mC P O I A J) pl 0 0 60 [(0, .ref 110), (1, .ref 106), (2, .int x2), (3, .int x3), (4, .int x4), (5, .int x5)] [.int x9, .int x2, .ref 112] := by
  refine a_zast F (hB _ (by decide)) rfl (o_1) dX6_goAsTold_60 ?_
  refine a_iconst (v := 1) F dX6_goAsTold_61 (by decide) ?_
  exact a_zret F E (by decide) dX6_goAsTold_62 (Nat.le_refl 0) (Nat.le_refl 0) (e_2)

set_option maxRecDepth 100000 in
theorem c_6_goAsTold (l : Launch) {P O : Nat → Nat → Option Nat} (hP : laP P) (I A : Nat → Nat → Int32) (J : Nat → Nat → Int64) {pl : List Nat} (hB : inB pl) {qc qo : Nat} (hk_qc : kC qc = 14) (hp_qc : qc ∈ pl) (hc9 : P 110 3 = some qc) (hk_qo : kC qo = 13) (hp_qo : qo ∈ pl) (ho9 : P 110 4 = some qo) (m k d f t : Nat) (B : Nat → Nat) (hm : m ≤ 1) (hk : k < 4) (hd1 : 1 ≤ d) (hd6 : d ≤ 6) (hf : f ≤ 25) (ht : t ≤ 24) (h7 : A 107 k = nI f) (h8 : A 108 k = nI t) (hb : bdR (A 131) 0 B) (hok : okB B) (hI : I 130 1 = nI m) : Con l 4 yX6_goAsTold cX6_goAsTold 6 (some .boolean) [.ref 110, .ref 106, .int (nI k), .int (nI d)] (mC P O I A J) pl 0 0 (gtQ P O I A J pl m k d f t B) := by
  refine Con.of (by decide) (Nat.le_of_ble_eq_true rfl) (fun X hX9 hn9 F E => ?_)
  have ck : (nI k).toNatClampNeg = k := nI_clamp (by omega)
  have v8 : vp_in (nI k) 8 := vp_in_nI (by omega) (by omega)
  have v4 : vp_in (nI k) 4 := vp_in_nI (by omega) (by omega)
  have et : nI (f - d) = nI t ↔ f - d = t := nI_eq (by omega) (by omega)
  refine r_6_goAsTold_0 F E hP hB hk_qc hp_qc hc9 hk_qo hp_qo ho9 v8 v8 (fun z => ?_) (fun z => ?_)
  · rw [ck, h7, h8, to_n hf hd6, et] at z
    exact ⟨rfl, fun h => absurd h.1.symm z, fun _ => ⟨rfl, rfl⟩⟩
  · rw [ck, h7, h8, to_n hf hd6, et] at z
    rw [ck, h7, h8]
    refine a_callV (b := 130) (As := [.int (nI f), .int (nI d)]) (st := []) (ci := 0) F (c_0_canMove (xl X) hP I A J hB 130 rfl (hB _ (by decide)) (hB _ (by decide)) f d m B hf hd1 hd6 hm hI hb) ml_6_70 im_yX0_canMove se_yX0_canMove (by decide) (by decide) rfl (hB _ (by decide)) rfl rfl dX6_goAsTold_36 (by decide) (Nat.le_refl 0) (Nat.le_refl 0) (hl_i (hl_i (hl_r (hB _ (by decide)) (hl_r (hB _ (by decide)) (hl_i (hl_i hl_nil)))))) hs_nil ?_
    rintro _ _ _ ⟨rfl, rfl, rfl⟩ _
    refine a_sub [2, 3, 4, 5, 1, 0] rfl ?_
    refine r_6_goAsTold_39 F E hP hB hk_qc hp_qc hc9 hk_qo hp_qo ho9 (fun y => ?_) (fun y => ?_)
    · have hc : 1 ≤ f ∧ cmP B m f d := Classical.byContradiction (fun h => y (if_neg h))
      rw [← z]
      refine a_callV (b := 130) (As := [.int (nI f), .int (nI (f - d))]) (st := [.int (nI k), .ref 112]) (ci := 0) F (c_0_move (xl X) hP I A J hB 130 rfl (hB _ (by decide)) (hB _ (by decide)) f d m B hc.1 hf hd1 hm hI hb hok hc.2) ml_6_74 im_yX0_move se_yX0_move (by decide) (by decide) rfl (hB _ (by decide)) rfl rfl dX6_goAsTold_57 (Nat.le_of_ble_eq_true rfl) (Nat.le_refl 0) (Nat.le_refl 0) (hl_r (hB _ (by decide)) (hl_r (hB _ (by decide)) (hl_i (hl_i (hl_i (hl_i hl_nil)))))) (hs_i (hs_r (hB _ (by decide)) hs_nil)) ?_
      rintro _ _ _ ⟨r1, rfl, rfl, rfl, b2⟩ _
      refine r_6_goAsTold_60 F E hP hB hk_qc hp_qc hc9 hk_qo hp_qo ho9 v4 ?_
      rw [ck, nar_b]
      refine ⟨rfl, fun _ => ⟨rfl, r1, ?_, b2⟩, fun h => absurd ⟨z.symm, hc⟩ h⟩
      show mC P O I (up1 (up1 A 131 r1) 112 (upd ((up1 A 131 r1) 112) k _)) J = _
      rw [up1_p (show (112 : Nat) ≠ 131 by decide)]
    · have hc : ¬ (1 ≤ f ∧ cmP B m f d) := fun h => by rw [if_pos h] at y; exact absurd y (by decide)
      exact ⟨rfl, fun h => absurd h.2 hc, fun _ => ⟨rfl, rfl⟩⟩

theorem r_6_compareStars_0 {X : Ctx} (F : Fx X cX6_compareStars RX6 3 1 0 0) {P O : Nat → Nat → Option Nat} (hP : laP P) {I A : Nat → Nat → Int32} {J : Nat → Nat → Int64} {pl : List Nat} (hB : inB pl) {qc qo : Nat} (hk_qc : kC qc = 14) (hp_qc : qc ∈ pl) (hc9 : P 110 3 = some qc) (hk_qo : kC qo = 13) (hp_qo : qo ∈ pl) (ho9 : P 110 4 = some qo)
    (e_1 : WA X (mC P O (up2 I 110 8 1) A J) pl 0 0 7 [(0, .ref 110), (1, .ref 106), (2, .int 0)] []) :
    WA X (mC P O I A J) pl 0 0 0 [(0, .ref 110), (1, .ref 106)] [] := by
  refine a_aload_n F 0 dX6_compareStars_0 rfl rfl ?_
  refine a_iconst (v := 1) F dX6_compareStars_1 (by decide) ?_
  refine a_puti F fl_6_151 rfl rfl (by decide +kernel) (by decide +kernel) (hB _ (by decide)) rfl dX6_compareStars_2 ?_
  refine a_iconst (v := 0) F dX6_compareStars_5 (by decide) ?_
  refine a_istore_n F dX6_compareStars_6 rfl (by decide) rfl ?_
  refine a_sub [1, 2, 0] rfl ?_
  exact e_1

theorem r_6_compareStars_7 {X : Ctx} (F : Fx X cX6_compareStars RX6 3 1 0 0) {Φ : Option Value → HS → List Nat → Prop} (E : Ex X none 0 0 Φ) {P O : Nat → Nat → Option Nat} (hP : laP P) {I A : Nat → Nat → Int32} {J : Nat → Nat → Int64} {pl : List Nat} (hB : inB pl) {qc qo : Nat} (hk_qc : kC qc = 14) (hp_qc : qc ∈ pl) (hc9 : P 110 3 = some qc) (hk_qo : kC qo = 13) (hp_qo : qo ∈ pl) (ho9 : P 110 4 = some qo) {x2 : Int32}
    (e_1 : ((I 106 5) ≤ x2) → Φ none (mC P O I A J) pl)
    (e_2 : (¬ ((I 106 5) ≤ x2)) → ((I 110 8) = 0) → WA X (mC P O (up2 I 110 8 0) A J) pl 0 0 7 [(0, .ref 110), (1, .ref 106), (2, .int (x2 + 1))] [])
    (o_3 : (¬ ((I 106 5) ≤ x2)) → (¬ ((I 110 8) = 0)) → vp_in x2 8)
    (o_4 : (¬ ((I 106 5) ≤ x2)) → (¬ ((I 110 8) = 0)) → vp_in x2 4)
    (e_5 : (¬ ((I 106 5) ≤ x2)) → (¬ ((I 110 8) = 0)) → (¬ (A 109 x2.toNatClampNeg) = (A 112 x2.toNatClampNeg)) → WA X (mC P O (up2 I 110 8 0) A J) pl 0 0 7 [(0, .ref 110), (1, .ref 106), (2, .int (x2 + 1))] [])
    (e_6 : (¬ ((I 106 5) ≤ x2)) → (¬ ((I 110 8) = 0)) → ((A 109 x2.toNatClampNeg) = (A 112 x2.toNatClampNeg)) → WA X (mC P O (up2 I 110 8 1) A J) pl 0 0 7 [(0, .ref 110), (1, .ref 106), (2, .int (x2 + 1))] []) :
    WA X (mC P O I A J) pl 0 0 7 [(0, .ref 110), (1, .ref 106), (2, .int x2)] [] := by
  refine a_iload_n F 2 dX6_compareStars_7 rfl rfl ?_
  refine a_aload_n F 1 dX6_compareStars_8 rfl rfl ?_
  refine a_geti F fl_6_134 rfl (hB _ (by decide)) rfl dX6_compareStars_9 ?_
  refine a_icmp_ge (tgt := 52) F dX6_compareStars_12 (by decide) (fun (c_1 : (I 106 5) ≤ x2) => ?_) (fun (c_1 : ¬ ((I 106 5) ≤ x2)) => ?_)
  · exact a_vret F E dX6_compareStars_52 (Nat.le_refl 0) (Nat.le_refl 0) (e_1 c_1)
  · refine a_aload_n F 0 dX6_compareStars_15 rfl rfl ?_
    refine a_aload_n F 0 dX6_compareStars_16 rfl rfl ?_
    refine a_geti F fl_6_151 rfl (hB _ (by decide)) rfl dX6_compareStars_17 ?_
    refine a_if_eq (tgt := 42) F dX6_compareStars_20 (by decide) (fun (c_2 : (I 110 8) = 0) => ?_) (fun (c_2 : ¬ ((I 110 8) = 0)) => ?_)
    · refine a_iconst (v := 0) F dX6_compareStars_42 (by decide) ?_
      refine a_puti F fl_6_151 rfl rfl (by decide +kernel) (by decide +kernel) (hB _ (by decide)) rfl dX6_compareStars_43 ?_
      refine a_iinc (v := x2 + 1) F 2 dX6_compareStars_46 rfl rfl (by decide) rfl ?_
      refine a_goto (tgt := 7) F dX6_compareStars_49 (by decide) ?_
      refine a_sub [1, 2, 0] rfl ?_
      exact e_2 c_1 c_2
    · refine a_aload_n F 1 dX6_compareStars_23 rfl rfl ?_
      refine a_getr (b := 109) F fl_6_155 rfl (hB _ (by decide)) rfl ((hP 106 4 (by decide)).trans rfl) dX6_compareStars_24 ?_
      refine a_iload_n F 2 dX6_compareStars_27 rfl rfl ?_
      refine a_zald F (hB _ (by decide)) rfl (o_3 c_1 c_2) dX6_compareStars_28 ?_
      refine a_aload_n F 0 dX6_compareStars_29 rfl rfl ?_
      refine a_getr (b := 112) F fl_6_15 rfl (hB _ (by decide)) rfl ((hP 110 2 (by decide)).trans rfl) dX6_compareStars_30 ?_
      refine a_iload_n F 2 dX6_compareStars_33 rfl rfl ?_
      refine a_zald F (hB _ (by decide)) rfl (o_4 c_1 c_2) dX6_compareStars_34 ?_
      refine a_icmp_ne (tgt := 42) F dX6_compareStars_35 (by decide) (fun (c_3 : ¬ (A 109 x2.toNatClampNeg) = (A 112 x2.toNatClampNeg)) => ?_) (fun (c_3 : (A 109 x2.toNatClampNeg) = (A 112 x2.toNatClampNeg)) => ?_)
      · refine a_iconst (v := 0) F dX6_compareStars_42 (by decide) ?_
        refine a_puti F fl_6_151 rfl rfl (by decide +kernel) (by decide +kernel) (hB _ (by decide)) rfl dX6_compareStars_43 ?_
        refine a_iinc (v := x2 + 1) F 2 dX6_compareStars_46 rfl rfl (by decide) rfl ?_
        refine a_goto (tgt := 7) F dX6_compareStars_49 (by decide) ?_
        refine a_sub [1, 2, 0] rfl ?_
        exact e_5 c_1 c_2 c_3
      · refine a_iconst (v := 1) F dX6_compareStars_38 (by decide) ?_
        refine a_goto (tgt := 43) F dX6_compareStars_39 (by decide) ?_
        refine a_puti F fl_6_151 rfl rfl (by decide +kernel) (by decide +kernel) (hB _ (by decide)) rfl dX6_compareStars_43 ?_
        refine a_iinc (v := x2 + 1) F 2 dX6_compareStars_46 rfl rfl (by decide) rfl ?_
        refine a_goto (tgt := 7) F dX6_compareStars_49 (by decide) ?_
        refine a_sub [1, 2, 0] rfl ?_
        exact e_6 c_1 c_2 c_3

set_option maxRecDepth 100000 in
theorem c_6_compareStars (l : Launch) {P O : Nat → Nat → Option Nat} (hP : laP P) (I A : Nat → Nat → Int32) (J : Nat → Nat → Int64) {pl : List Nat} (hB : inB pl) {qc qo : Nat} (hk_qc : kC qc = 14) (hp_qc : qc ∈ pl) (hc9 : P 110 3 = some qc) (hk_qo : kC qo = 13) (hp_qo : qo ∈ pl) (ho9 : P 110 4 = some qo) (n : Nat) (hn : n ≤ 4) (h5 : I 106 5 = nI n) : Con l 1 yX6_compareStars cX6_compareStars 3 none [.ref 110, .ref 106] (mC P O I A J) pl 0 0 (PC none P O (up2 I 110 8 (@ite Int32 (∀ k, k < n → A 109 k = A 112 k) (Classical.propDecidable _) 1 0)) A J pl) := by
  refine Con.of (by decide) (Nat.le_of_ble_eq_true rfl) (fun X hX9 hn9 F E => ?_)
  have lp : ∀ f k, k + f = n → WA X (mC P O (up2 I 110 8 (@ite Int32 (∀ j, j < k → A 109 j = A 112 j) (Classical.propDecidable _) 1 0)) A J) pl 0 0 7 [(0, .ref 110), (1, .ref 106), (2, .int (nI k))] [] := by
    intro f
    induction f with
    | zero =>
      intro k hk
      obtain rfl : k = n := by omega
      have z : (up2 I 110 8 (@ite Int32 (∀ j, j < k → A 109 j = A 112 j) (Classical.propDecidable _) 1 0)) 106 5 ≤ nI k := by rw [up2_p (by decide), h5]; exact Int32.le_refl _
      exact r_6_compareStars_7 F E hP hB hk_qc hp_qc hc9 hk_qo hp_qo ho9 (fun _ => ⟨rfl, rfl, rfl⟩) (fun y => absurd z y) (fun y => absurd z y) (fun y => absurd z y) (fun y => absurd z y) (fun y => absurd z y)
    | succ f ih =>
      intro k hk
      have z : ¬ (up2 I 110 8 (@ite Int32 (∀ j, j < k → A 109 j = A 112 j) (Classical.propDecidable _) 1 0)) 106 5 ≤ nI k := by rw [up2_p (by decide), h5]; exact fun y => by have := (nI_leI (by omega) (by omega)).mp y; omega
      have ck : (nI k).toNatClampNeg = k := nI_clamp (by omega)
      have go : ∀ v, v = (@ite Int32 (∀ j, j < k + 1 → A 109 j = A 112 j) (Classical.propDecidable _) 1 0) → WA X (mC P O (up2 (up2 I 110 8 (@ite Int32 (∀ j, j < k → A 109 j = A 112 j) (Classical.propDecidable _) 1 0)) 110 8 v) A J) pl 0 0 7 [(0, .ref 110), (1, .ref 106), (2, .int (nI k + 1))] [] := fun v hv => by
        rw [up2_up2, hv, nI_1]; exact ih (k + 1) (by omega)
      refine r_6_compareStars_7 F E hP hB hk_qc hp_qc hc9 hk_qo hp_qo ho9 (fun y => absurd y z) (fun _ y => go _ ?_) (fun _ _ => vp_in_nI (by omega) (by omega)) (fun _ _ => vp_in_nI (by omega) (by omega)) (fun _ y w => go _ ?_) (fun _ y w => go _ ?_) <;> rw [up2_s] at y
      · have : ¬ ∀ j, j < k → A 109 j = A 112 j := fun h => by rw [if_pos h] at y; exact absurd y (by decide)
        rw [if_neg (fun h => this (fun j hj => h j (by omega)))]
      · rw [ck] at w
        rw [if_neg (fun h => w (h k (by omega)))]
      · rw [ck] at w
        have : ∀ j, j < k → A 109 j = A 112 j := Classical.byContradiction (fun h => y (if_neg h))
        rw [if_pos (fun j hj => by
          by_cases e : j = k
          · rw [e]; exact w
          · exact this j (by omega))]
  refine r_6_compareStars_0 F hP hB hk_qc hp_qc hc9 hk_qo hp_qo ho9 ?_
  have := lp n 0 (by omega)
  rw [if_pos (fun j hj => by omega)] at this
  exact this
