/-- what the class tells of a way -/
def mvO (w : Nat) (x : Int32) : Int32 := if x < 0 ∨ 4 ≤ x ∨ wdg w x.toNatClampNeg = 0 then -1 else nI (wdg w x.toNatClampNeg)
theorem mo_g : ∀ k, k < 4 → ((10 * (3 - nI k)) : Int32) = nI (10 * (3 - k)) := by decide
theorem mo_v {w k : Nat} (hw : w < 2 ^ 40) (hk : k < 4) : ((((lN w).toUInt64 >>> ((((10 * (3 - nI k)) : Int32)).toInt64.toUInt64 &&& Int64.toUInt64 63)).toInt64 : Int64).toInt32) &&& 1023 = nI (wdg w k) := by
  rw [mo_g k hk, wb_shr (by omega) (by omega), l2i_n, i_1023, Nat.pow_mul]; rfl
def pbQ (P O : Nat → Nat → Option Nat) (I A : Nat → Nat → Int32) (J : Nat → Nat → Int64) (pl : List Nat) (m : Nat) (B : Nat → Nat) : Option Value → HS → List Nat → Prop := fun r σ' pl' => r = none ∧ pl = pl' ∧ ∃ r', σ' = mC P O (up2 I 130 1 (nI (1 - m))) (up1 A 131 r') J ∧ bdR r' 0 B
theorem ph_in {r : Nat → Int32} {B : Nat → Nat} {o j : Nat} (h : ∀ k, k < 13 → B (o + k) ≤ 15) (h1 : o ≤ j) (h2 : j < o + 13) : phR r o 13 (kd B o 13) j = nI (B j) := by
  unfold phR; rw [if_pos ⟨h1, h2⟩, kd_at h (by omega), show o + (j - o) = j by omega]
theorem ph_out {r : Nat → Int32} {o v j : Nat} (h : j < o ∨ o + 13 ≤ j) : phR r o 13 v j = r j := by unfold phR; rw [if_neg (by omega)]

theorem r_6_moveOf_0 {X : Ctx} (F : Fx X cX6_moveOf RX6 4 1 0 0) {Φ : Option Value → HS → List Nat → Prop} (E : Ex X (some .int) 0 0 Φ) {P O : Nat → Nat → Option Nat} (hP : laP P) {I A : Nat → Nat → Int32} {J : Nat → Nat → Int64} {pl : List Nat} (hB : inB pl) {qc qo : Nat} (hk_qc : kC qc = 14) (hp_qc : qc ∈ pl) (hc9 : P 110 3 = some qc) (hk_qo : kC qo = 13) (hp_qo : qo ∈ pl) (ho9 : P 110 4 = some qo) {x1 x2 : Int32}
    (e_1 : (x2 < 0) → Φ (some (.int (-1))) (mC P O I A J) pl)
    (o_2 : (¬ (x2 < 0)) → (x2 < 4) → vp_in x1 (nC qo))
    (o_3 : (¬ (x2 < 0)) → (x2 < 4) → vp_in (((A qo x1.toNatClampNeg) * 5) + 4) (nC qc))
    (e_4 : (¬ (x2 < 0)) → (x2 < 4) → (¬ ((((((J qc (((A qo x1.toNatClampNeg) * 5) + 4).toNatClampNeg) : Int64).toUInt64 >>> (((10 * (3 - x2)) : Int32).toInt64.toUInt64 &&& Int64.toUInt64 63)).toInt64 : Int64).toInt32) &&& 1023) = 0) → Φ (some (.int ((((((J qc (((A qo x1.toNatClampNeg) * 5) + 4).toNatClampNeg) : Int64).toUInt64 >>> (((10 * (3 - x2)) : Int32).toInt64.toUInt64 &&& Int64.toUInt64 63)).toInt64 : Int64).toInt32) &&& 1023))) (mC P O I A J) pl)
    (e_5 : (¬ (x2 < 0)) → (x2 < 4) → (((((((J qc (((A qo x1.toNatClampNeg) * 5) + 4).toNatClampNeg) : Int64).toUInt64 >>> (((10 * (3 - x2)) : Int32).toInt64.toUInt64 &&& Int64.toUInt64 63)).toInt64 : Int64).toInt32) &&& 1023) = 0) → Φ (some (.int (-1))) (mC P O I A J) pl)
    (e_6 : (¬ (x2 < 0)) → (¬ (x2 < 4)) → Φ (some (.int (-1))) (mC P O I A J) pl) :
    WA X (mC P O I A J) pl 0 0 0 [(0, .ref 110), (1, .int x1), (2, .int x2)] [] := by
  refine a_iload_n F 2 dX6_moveOf_0 rfl rfl ?_
  refine a_if_lt (tgt := 9) F dX6_moveOf_1 (by decide) (fun (c_1 : x2 < 0) => ?_) (fun (c_1 : ¬ (x2 < 0)) => ?_)
  · refine a_iconst (v := (-1)) F dX6_moveOf_9 (by decide) ?_
    exact a_iret F E dX6_moveOf_10 (Nat.le_refl 0) (Nat.le_refl 0) (e_1 c_1)
  · refine a_iload_n F 2 dX6_moveOf_4 rfl rfl ?_
    refine a_iconst (v := 4) F dX6_moveOf_5 (by decide) ?_
    refine a_icmp_lt (tgt := 11) F dX6_moveOf_6 (by decide) (fun (c_2 : x2 < 4) => ?_) (fun (c_2 : ¬ (x2 < 4)) => ?_)
    · refine a_aload_n F 0 dX6_moveOf_11 rfl rfl ?_
      refine a_getr (b := qc) F fl_6_19 rfl (hB _ (by decide)) rfl hc9 dX6_moveOf_12 ?_
      refine a_aload_n F 0 dX6_moveOf_15 rfl rfl ?_
      refine a_getr (b := qo) F fl_6_22 rfl (hB _ (by decide)) rfl ho9 dX6_moveOf_16 ?_
      refine a_iload_n F 1 dX6_moveOf_19 rfl rfl ?_
      refine a_iald F (hp_qo) hk_qo (o_2 c_1 c_2) dX6_moveOf_20 ?_
      refine a_iconst (v := 5) F dX6_moveOf_21 (by decide) ?_
      refine a_imul F dX6_moveOf_22 ?_
      refine a_iconst (v := 4) F dX6_moveOf_23 (by decide) ?_
      refine a_iadd F dX6_moveOf_24 ?_
      refine a_lald F (hp_qc) hk_qc (o_3 c_1 c_2) dX6_moveOf_25 ?_
      refine a_bipush (v := 10) F dX6_moveOf_26 (by decide) ?_
      refine a_iconst (v := 3) F dX6_moveOf_28 (by decide) ?_
      refine a_iload_n F 2 dX6_moveOf_29 rfl rfl ?_
      refine a_isub F dX6_moveOf_30 ?_
      refine a_imul F dX6_moveOf_31 ?_
      refine a_lushr F dX6_moveOf_32 ?_
      refine a_l2i F dX6_moveOf_33 ?_
      refine a_sipush (v := 1023) F dX6_moveOf_34 (by decide) ?_
      refine a_iand F dX6_moveOf_37 ?_
      refine a_istore_n F dX6_moveOf_38 rfl (by decide) rfl ?_
      refine a_iload_n F 0 dX6_moveOf_39 rfl rfl ?_
      refine a_if_ne (tgt := 47) F dX6_moveOf_40 (by decide) (fun (c_3 : ¬ ((((((J qc (((A qo x1.toNatClampNeg) * 5) + 4).toNatClampNeg) : Int64).toUInt64 >>> (((10 * (3 - x2)) : Int32).toInt64.toUInt64 &&& Int64.toUInt64 63)).toInt64 : Int64).toInt32) &&& 1023) = 0) => ?_) (fun (c_3 : ((((((J qc (((A qo x1.toNatClampNeg) * 5) + 4).toNatClampNeg) : Int64).toUInt64 >>> (((10 * (3 - x2)) : Int32).toInt64.toUInt64 &&& Int64.toUInt64 63)).toInt64 : Int64).toInt32) &&& 1023) = 0) => ?_)
      · refine a_iload_n F 0 dX6_moveOf_47 rfl rfl ?_
        exact a_iret F E dX6_moveOf_48 (Nat.le_refl 0) (Nat.le_refl 0) (e_4 c_1 c_2 c_3)
      · refine a_iconst (v := (-1)) F dX6_moveOf_43 (by decide) ?_
        refine a_goto (tgt := 48) F dX6_moveOf_44 (by decide) ?_
        exact a_iret F E dX6_moveOf_48 (Nat.le_refl 0) (Nat.le_refl 0) (e_5 c_1 c_2 c_3)
    · refine a_iconst (v := (-1)) F dX6_moveOf_9 (by decide) ?_
      exact a_iret F E dX6_moveOf_10 (Nat.le_refl 0) (Nat.le_refl 0) (e_6 c_1 c_2)

set_option maxRecDepth 100000 in
theorem c_6_moveOf (l : Launch) {P O : Nat → Nat → Option Nat} (hP : laP P) (I A : Nat → Nat → Int32) (J : Nat → Nat → Int64) {pl : List Nat} (hB : inB pl) (m i : Nat) (x : Int32) (τ : TB) (ht : tbS P I A J pl m τ) (hi : i < τ.2.1) : Con l 1 yX6_moveOf cX6_moveOf 4 (some .int) [.ref 110, .int (nI i), .int x] (mC P O I A J) pl 0 0 (PC (some (.int (mvO (τ.2.2.2.1 i) x))) P O I A J pl) := by
  refine Con.of (by decide) (Nat.le_of_ble_eq_true rfl) (fun X hX9 hn9 F E => ?_)
  obtain ⟨k1, k2, k3, k4, k5, k6, k7⟩ := tb_len ht
  obtain ⟨hM, t3, t4, t5, t6, t7, tc, ts, o, tr⟩ := ht
  have oi := tr.1 i hi
  have wi := tr.2.2.2 i hi
  have vi : vp_in (nI i) (nC (301 + 2 * τ.2.2.2.2)) := by rw [k6]; exact vp_in_nI (by omega) (by omega)
  have e4 : A (301 + 2 * τ.2.2.2.2) (nI i).toNatClampNeg * 5 + 4 = nI (5 * o i + 4) := by
    rw [nI_clamp (by omega), oi.1, show nI (o i) * 5 = nI (o i * 5) from (Int32.ofNat_mul (o i) 5).symm, Nat.mul_comm]; exact nI_add _ 4
  have v4 : vp_in (nI (5 * o i + 4)) (nC (300 + 2 * τ.2.2.2.2)) := vp_in_nI (by omega) (by omega)
  have ex : ¬ x < 0 → x < 4 → ∃ k, k < 4 ∧ x = nI k := fun a b => by
    obtain ⟨k, hk, e⟩ := nI_of2 (x := x) (M := 3) (n := 3) rfl a (by grind)
    exact ⟨k, by omega, e⟩
  have val : ¬ x < 0 → x < 4 → ((((J (300 + 2 * τ.2.2.2.2) (A (301 + 2 * τ.2.2.2.2) (nI i).toNatClampNeg * 5 + 4).toNatClampNeg).toUInt64 >>> ((((10 * (3 - x)) : Int32)).toInt64.toUInt64 &&& Int64.toUInt64 63)).toInt64 : Int64).toInt32) &&& 1023 = nI (wdg (τ.2.2.2.1 i) x.toNatClampNeg) := fun a b => by
    obtain ⟨k, hk, rfl⟩ := ex a b
    rw [e4, nI_clamp (n := 5 * o i + 4) (by omega), wi.2, mo_v wi.1 hk, nI_clamp (n := k) (by omega)]
  have wl : wdg (τ.2.2.2.1 i) x.toNatClampNeg < 2 ^ 31 := Nat.lt_of_lt_of_le (Nat.mod_lt _ (by decide)) (by decide)
  refine r_6_moveOf_0 F E hP hB k1 k2 t3 k3 k4 t4 (fun z => ?_) (fun _ _ => vi) (fun _ _ => by rw [e4]; exact v4) (fun z w y => ?_) (fun z w y => ?_) (fun z w => ?_)
  · unfold mvO; rw [if_pos (Or.inl z)]; exact ⟨rfl, rfl, rfl⟩
  · rw [val z w] at y ⊢
    unfold mvO
    rw [if_neg (fun h => h.elim z (fun h => h.elim (fun h => absurd w (Int32.not_lt.mpr h)) (fun h => y ((nI_z wl).mpr h))))]
    exact ⟨rfl, rfl, rfl⟩
  · rw [val z w] at y
    unfold mvO; rw [if_pos (Or.inr (Or.inr ((nI_z wl).mp y)))]; exact ⟨rfl, rfl, rfl⟩
  · unfold mvO; rw [if_pos (Or.inr (Or.inl (Int32.not_lt.mp w)))]; exact ⟨rfl, rfl, rfl⟩

theorem r_6_putOnBoard_0 {X : Ctx} (F : Fx X cX6_putOnBoard RX6 3 3 0 0) {P O : Nat → Nat → Option Nat} (hP : laP P) {I A : Nat → Nat → Int32} {J : Nat → Nat → Int64} {pl : List Nat} (hB : inB pl) {qc qo : Nat} (hk_qc : kC qc = 14) (hp_qc : qc ∈ pl) (hc9 : P 110 3 = some qc) (hk_qo : kC qo = 13) (hp_qo : qo ∈ pl) (ho9 : P 110 4 = some qo) {x1 : Int32}
    (o_1 : vp_in x1 (nC qo))
    (o_2 : vp_in ((A qo x1.toNatClampNeg) * 5) (nC qc))
    (e_3 : WA X (mC P O I A J) pl 0 0 25 [(2, .int ((A qo x1.toNatClampNeg) * 5)), (0, .ref 110), (1, .int x1)] [.long (J qc ((A qo x1.toNatClampNeg) * 5).toNatClampNeg), .int 25, .int (I 110 6), .ref 130]) :
    WA X (mC P O I A J) pl 0 0 0 [(0, .ref 110), (1, .int x1)] [] := by
  refine a_aload_n F 0 dX6_putOnBoard_0 rfl rfl ?_
  refine a_getr (b := qo) F fl_6_22 rfl (hB _ (by decide)) rfl ho9 dX6_putOnBoard_1 ?_
  refine a_iload_n F 1 dX6_putOnBoard_4 rfl rfl ?_
  refine a_iald F (hp_qo) hk_qo (o_1) dX6_putOnBoard_5 ?_
  refine a_iconst (v := 5) F dX6_putOnBoard_6 (by decide) ?_
  refine a_imul F dX6_putOnBoard_7 ?_
  refine a_istore_n F dX6_putOnBoard_8 rfl (by decide) rfl ?_
  refine a_aload_n F 1 dX6_putOnBoard_9 rfl rfl ?_
  refine a_getr (b := 130) F fl_6_26 rfl (hB _ (by decide)) rfl ((hP 110 0 (by decide)).trans rfl) dX6_putOnBoard_10 ?_
  refine a_aload_n F 1 dX6_putOnBoard_13 rfl rfl ?_
  refine a_geti F fl_6_42 rfl (hB _ (by decide)) rfl dX6_putOnBoard_14 ?_
  refine a_bipush (v := 25) F dX6_putOnBoard_17 (by decide) ?_
  refine a_aload_n F 1 dX6_putOnBoard_19 rfl rfl ?_
  refine a_getr (b := qc) F fl_6_19 rfl (hB _ (by decide)) rfl hc9 dX6_putOnBoard_20 ?_
  refine a_iload_n F 0 dX6_putOnBoard_23 rfl rfl ?_
  refine a_lald F (hp_qc) hk_qc (o_2) dX6_putOnBoard_24 ?_
  exact e_3

theorem r_6_putOnBoard_28 {X : Ctx} (F : Fx X cX6_putOnBoard RX6 3 3 0 0) {P O : Nat → Nat → Option Nat} (hP : laP P) {I A : Nat → Nat → Int32} {J : Nat → Nat → Int64} {pl : List Nat} (hB : inB pl) {qc qo : Nat} (hk_qc : kC qc = 14) (hp_qc : qc ∈ pl) (hc9 : P 110 3 = some qc) (hk_qo : kC qo = 13) (hp_qo : qo ∈ pl) (ho9 : P 110 4 = some qo) {x1 x2 : Int32}
    (o_1 : vp_in (x2 + 1) (nC qc))
    (e_2 : WA X (mC P O I A J) pl 0 0 46 [(0, .ref 110), (1, .int x1), (2, .int x2)] [.long (J qc (x2 + 1).toNatClampNeg), .int 12, .int (I 110 6), .ref 130]) :
    WA X (mC P O I A J) pl 0 0 28 [(0, .ref 110), (1, .int x1), (2, .int x2)] [] := by
  refine a_aload_n F 0 dX6_putOnBoard_28 rfl rfl ?_
  refine a_getr (b := 130) F fl_6_26 rfl (hB _ (by decide)) rfl ((hP 110 0 (by decide)).trans rfl) dX6_putOnBoard_29 ?_
  refine a_aload_n F 0 dX6_putOnBoard_32 rfl rfl ?_
  refine a_geti F fl_6_42 rfl (hB _ (by decide)) rfl dX6_putOnBoard_33 ?_
  refine a_bipush (v := 12) F dX6_putOnBoard_36 (by decide) ?_
  refine a_aload_n F 0 dX6_putOnBoard_38 rfl rfl ?_
  refine a_getr (b := qc) F fl_6_19 rfl (hB _ (by decide)) rfl hc9 dX6_putOnBoard_39 ?_
  refine a_iload_n F 2 dX6_putOnBoard_42 rfl rfl ?_
  refine a_iconst (v := 1) F dX6_putOnBoard_43 (by decide) ?_
  refine a_iadd F dX6_putOnBoard_44 ?_
  refine a_lald F (hp_qc) hk_qc (o_1) dX6_putOnBoard_45 ?_
  exact e_2

theorem r_6_putOnBoard_49 {X : Ctx} (F : Fx X cX6_putOnBoard RX6 3 3 0 0) {P O : Nat → Nat → Option Nat} (hP : laP P) {I A : Nat → Nat → Int32} {J : Nat → Nat → Int64} {pl : List Nat} (hB : inB pl) {qc qo : Nat} (hk_qc : kC qc = 14) (hp_qc : qc ∈ pl) (hc9 : P 110 3 = some qc) (hk_qo : kC qo = 13) (hp_qo : qo ∈ pl) (ho9 : P 110 4 = some qo) {x1 x2 : Int32}
    (o_1 : vp_in (x2 + 2) (nC qc))
    (e_2 : WA X (mC P O I A J) pl 0 0 69 [(0, .ref 110), (1, .int x1), (2, .int x2)] [.long (J qc (x2 + 2).toNatClampNeg), .int 25, .int (1 - (I 110 6)), .ref 130]) :
    WA X (mC P O I A J) pl 0 0 49 [(0, .ref 110), (1, .int x1), (2, .int x2)] [] := by
  refine a_aload_n F 0 dX6_putOnBoard_49 rfl rfl ?_
  refine a_getr (b := 130) F fl_6_26 rfl (hB _ (by decide)) rfl ((hP 110 0 (by decide)).trans rfl) dX6_putOnBoard_50 ?_
  refine a_iconst (v := 1) F dX6_putOnBoard_53 (by decide) ?_
  refine a_aload_n F 0 dX6_putOnBoard_54 rfl rfl ?_
  refine a_geti F fl_6_42 rfl (hB _ (by decide)) rfl dX6_putOnBoard_55 ?_
  refine a_isub F dX6_putOnBoard_58 ?_
  refine a_bipush (v := 25) F dX6_putOnBoard_59 (by decide) ?_
  refine a_aload_n F 0 dX6_putOnBoard_61 rfl rfl ?_
  refine a_getr (b := qc) F fl_6_19 rfl (hB _ (by decide)) rfl hc9 dX6_putOnBoard_62 ?_
  refine a_iload_n F 2 dX6_putOnBoard_65 rfl rfl ?_
  refine a_iconst (v := 2) F dX6_putOnBoard_66 (by decide) ?_
  refine a_iadd F dX6_putOnBoard_67 ?_
  refine a_lald F (hp_qc) hk_qc (o_1) dX6_putOnBoard_68 ?_
  exact e_2

theorem r_6_putOnBoard_72 {X : Ctx} (F : Fx X cX6_putOnBoard RX6 3 3 0 0) {P O : Nat → Nat → Option Nat} (hP : laP P) {I A : Nat → Nat → Int32} {J : Nat → Nat → Int64} {pl : List Nat} (hB : inB pl) {qc qo : Nat} (hk_qc : kC qc = 14) (hp_qc : qc ∈ pl) (hc9 : P 110 3 = some qc) (hk_qo : kC qo = 13) (hp_qo : qo ∈ pl) (ho9 : P 110 4 = some qo) {x1 x2 : Int32}
    (o_1 : vp_in (x2 + 3) (nC qc))
    (e_2 : WA X (mC P O I A J) pl 0 0 92 [(0, .ref 110), (1, .int x1), (2, .int x2)] [.long (J qc (x2 + 3).toNatClampNeg), .int 12, .int (1 - (I 110 6)), .ref 130]) :
    WA X (mC P O I A J) pl 0 0 72 [(0, .ref 110), (1, .int x1), (2, .int x2)] [] := by
  refine a_aload_n F 0 dX6_putOnBoard_72 rfl rfl ?_
  refine a_getr (b := 130) F fl_6_26 rfl (hB _ (by decide)) rfl ((hP 110 0 (by decide)).trans rfl) dX6_putOnBoard_73 ?_
  refine a_iconst (v := 1) F dX6_putOnBoard_76 (by decide) ?_
  refine a_aload_n F 0 dX6_putOnBoard_77 rfl rfl ?_
  refine a_geti F fl_6_42 rfl (hB _ (by decide)) rfl dX6_putOnBoard_78 ?_
  refine a_isub F dX6_putOnBoard_81 ?_
  refine a_bipush (v := 12) F dX6_putOnBoard_82 (by decide) ?_
  refine a_aload_n F 0 dX6_putOnBoard_84 rfl rfl ?_
  refine a_getr (b := qc) F fl_6_19 rfl (hB _ (by decide)) rfl hc9 dX6_putOnBoard_85 ?_
  refine a_iload_n F 2 dX6_putOnBoard_88 rfl rfl ?_
  refine a_iconst (v := 3) F dX6_putOnBoard_89 (by decide) ?_
  refine a_iadd F dX6_putOnBoard_90 ?_
  refine a_lald F (hp_qc) hk_qc (o_1) dX6_putOnBoard_91 ?_
  exact e_2

theorem r_6_putOnBoard_95 {X : Ctx} (F : Fx X cX6_putOnBoard RX6 3 3 0 0) {Φ : Option Value → HS → List Nat → Prop} (E : Ex X none 0 0 Φ) {P O : Nat → Nat → Option Nat} (hP : laP P) {I A : Nat → Nat → Int32} {J : Nat → Nat → Int64} {pl : List Nat} (hB : inB pl) {qc qo : Nat} (hk_qc : kC qc = 14) (hp_qc : qc ∈ pl) (hc9 : P 110 3 = some qc) (hk_qo : kC qo = 13) (hp_qo : qo ∈ pl) (ho9 : P 110 4 = some qo) {x1 x2 : Int32}
    (e_1 : Φ none (mC P O (up2 I 130 1 (1 - (I 110 6))) A J) pl) :
    WA X (mC P O I A J) pl 0 0 95 [(0, .ref 110), (1, .int x1), (2, .int x2)] [] := by
  refine a_aload_n F 0 dX6_putOnBoard_95 rfl rfl ?_
  refine a_getr (b := 130) F fl_6_26 rfl (hB _ (by decide)) rfl ((hP 110 0 (by decide)).trans rfl) dX6_putOnBoard_96 ?_
  refine a_iconst (v := 1) F dX6_putOnBoard_99 (by decide) ?_
  refine a_aload_n F 0 dX6_putOnBoard_100 rfl rfl ?_
  refine a_geti F fl_6_42 rfl (hB _ (by decide)) rfl dX6_putOnBoard_101 ?_
  refine a_isub F dX6_putOnBoard_104 ?_
  refine a_puti F fl_6_37 rfl rfl rfl rfl (hB _ (by decide)) rfl dX6_putOnBoard_105 ?_
  exact a_vret F E dX6_putOnBoard_108 (Nat.le_refl 0) (Nat.le_refl 0) (e_1)

set_option maxRecDepth 100000 in
theorem c_6_putOnBoard (l : Launch) {P O : Nat → Nat → Option Nat} (hP : laP P) (I A : Nat → Nat → Int32) (J : Nat → Nat → Int64) {pl : List Nat} (hB : inB pl) (m i : Nat) (τ : TB) (hm : m ≤ 1) (ht : tbS P I A J pl m τ) (hi : i < τ.2.1) : Con l 3 yX6_putOnBoard cX6_putOnBoard 3 none [.ref 110, .int (nI i)] (mC P O I A J) pl 0 0 (pbQ P O I A J pl m (τ.2.2.1 i)) := by
  refine Con.of (by decide) (Nat.le_of_ble_eq_true rfl) (fun X hX9 hn9 F E => ?_)
  obtain ⟨k1, k2, k3, k4, k5, k6, k7⟩ := tb_len ht
  obtain ⟨hM, t3, t4, t5, t6, t7, tc, ts, o, tr⟩ := ht
  have oi := tr.1 i hi
  obtain ⟨di, ki⟩ := tr.2.2.1 i hi
  have vi : vp_in (nI i) (nC (301 + 2 * τ.2.2.2.2)) := by rw [k6]; exact vp_in_nI (by omega) (by omega)
  have e5 : A (301 + 2 * τ.2.2.2.2) (nI i).toNatClampNeg * 5 = nI (5 * o i) := by
    rw [nI_clamp (by omega), oi.1, show nI (o i) * 5 = nI (o i * 5) from (Int32.ofNat_mul (o i) 5).symm, Nat.mul_comm]
  have e1 : (1 : Int32) - nI m = nI (1 - m) := pk_sub (a := 1) (b := m) hm
  have ad : ∀ k, nI (5 * o i) + nI k = nI (5 * o i + k) := fun k => nI_add _ k
  have cl : ∀ k, k < 4 → J (300 + 2 * τ.2.2.2.2) (nI (5 * o i + k)).toNatClampNeg = lN (hvF m (τ.2.2.1 i) k) := fun k hk => by rw [nI_clamp (by omega)]; exact ki k hk
  have vc : ∀ k, k < 4 → vp_in (nI (5 * o i + k)) (nC (300 + 2 * τ.2.2.2.2)) := fun k hk => vp_in_nI (by omega) (by omega)
  refine r_6_putOnBoard_0 F hP hB k1 k2 t3 k3 k4 t4 vi (by rw [e5]; exact vc 0 (by omega)) ?_
  rw [e5, t6, show J (300 + 2 * τ.2.2.2.2) (nI (5 * o i)).toNatClampNeg = lN (hvF m (τ.2.2.1 i) 0) from cl 0 (by omega)]
  refine a_callV (b := 130) (As := [.int (nI m), .int (nI 25), .long (lN (hvF m (τ.2.2.1 i) 0))]) (st := []) (ci := 0) F (c_0_putHalf (xl X) hP I A J hB 130 rfl (hB _ (by decide)) (hB _ (by decide)) m 25 (hvF m (τ.2.2.1 i) 0) (by omega) (Or.inl rfl) (hv_63 hm di)) ml_6_126 im_yX0_putHalf se_yX0_putHalf (by decide) (by decide) rfl (hB _ (by decide)) rfl rfl dX6_putOnBoard_25 (by decide) (Nat.le_refl 0) (Nat.le_refl 0) (hl_i (hl_r (hB _ (by decide)) (hl_i hl_nil))) hs_nil ?_
  rintro _ _ _ ⟨rfl, rfl, rfl⟩ _
  refine a_sub [1, 2, 0] rfl ?_
  refine r_6_putOnBoard_28 F hP hB k1 k2 t3 k3 k4 t4 (by rw [show nI (5 * o i) + 1 = nI (5 * o i + 1) from ad 1]; exact vc 1 (by omega)) ?_
  rw [t6, show nI (5 * o i) + 1 = nI (5 * o i + 1) from ad 1, cl 1 (by omega)]
  refine a_callV (b := 130) (As := [.int (nI m), .int (nI 12), .long (lN (hvF m (τ.2.2.1 i) 1))]) (st := []) (ci := 0) F (c_0_putHalf (xl X) hP I _ J hB 130 rfl (hB _ (by decide)) (hB _ (by decide)) m 12 (hvF m (τ.2.2.1 i) 1) (by omega) (Or.inr rfl) (hv_63 hm di)) ml_6_126 im_yX0_putHalf se_yX0_putHalf (by decide) (by decide) rfl (hB _ (by decide)) rfl rfl dX6_putOnBoard_46 (by decide) (Nat.le_refl 0) (Nat.le_refl 0) (hl_r (hB _ (by decide)) (hl_i (hl_i hl_nil))) hs_nil ?_
  rintro _ _ _ ⟨rfl, rfl, rfl⟩ _
  refine r_6_putOnBoard_49 F hP hB k1 k2 t3 k3 k4 t4 (by rw [show nI (5 * o i) + 2 = nI (5 * o i + 2) from ad 2]; exact vc 2 (by omega)) ?_
  rw [t6, e1, show nI (5 * o i) + 2 = nI (5 * o i + 2) from ad 2, cl 2 (by omega)]
  refine a_callV (b := 130) (As := [.int (nI (1 - m)), .int (nI 25), .long (lN (hvF m (τ.2.2.1 i) 2))]) (st := []) (ci := 0) F (c_0_putHalf (xl X) hP I _ J hB 130 rfl (hB _ (by decide)) (hB _ (by decide)) (1 - m) 25 (hvF m (τ.2.2.1 i) 2) (by omega) (Or.inl rfl) (hv_63 hm di)) ml_6_126 im_yX0_putHalf se_yX0_putHalf (by decide) (by decide) rfl (hB _ (by decide)) rfl rfl dX6_putOnBoard_69 (by decide) (Nat.le_refl 0) (Nat.le_refl 0) (hl_r (hB _ (by decide)) (hl_i (hl_i hl_nil))) hs_nil ?_
  rintro _ _ _ ⟨rfl, rfl, rfl⟩ _
  refine r_6_putOnBoard_72 F hP hB k1 k2 t3 k3 k4 t4 (by rw [show nI (5 * o i) + 3 = nI (5 * o i + 3) from ad 3]; exact vc 3 (by omega)) ?_
  rw [t6, e1, show nI (5 * o i) + 3 = nI (5 * o i + 3) from ad 3, cl 3 (by omega)]
  refine a_callV (b := 130) (As := [.int (nI (1 - m)), .int (nI 12), .long (lN (hvF m (τ.2.2.1 i) 3))]) (st := []) (ci := 0) F (c_0_putHalf (xl X) hP I _ J hB 130 rfl (hB _ (by decide)) (hB _ (by decide)) (1 - m) 12 (hvF m (τ.2.2.1 i) 3) (by omega) (Or.inr rfl) (hv_63 hm di)) ml_6_126 im_yX0_putHalf se_yX0_putHalf (by decide) (by decide) rfl (hB _ (by decide)) rfl rfl dX6_putOnBoard_92 (by decide) (Nat.le_refl 0) (Nat.le_refl 0) (hl_r (hB _ (by decide)) (hl_i (hl_i hl_nil))) hs_nil ?_
  rintro _ _ _ ⟨rfl, rfl, rfl⟩ _
  refine r_6_putOnBoard_95 F E hP hB k1 k2 t3 k3 k4 t4 ?_
  rw [t6, e1, show (130 : Nat) + 1 = 131 from rfl, up1_up1, up1_up1, up1_up1, up1_s, up1_s, up1_s]
  refine ⟨rfl, rfl, _, rfl, fun j hj => ⟨?_, Nat.le_trans (di j hj) (by decide)⟩⟩
  rw [Nat.zero_add]
  have d1 : ∀ o9, o9 + 13 ≤ 52 → ∀ k, k < 13 → τ.2.2.1 i (o9 + k) ≤ 15 := fun o9 h k hk => di _ (by omega)
  show phR (phR (phR (phR (A 131) (26 * m + 13) 13 (kd (τ.2.2.1 i) (26 * m + 13) 13)) (26 * m + 0) 13 (kd (τ.2.2.1 i) (26 * m + 0) 13)) (26 * (1 - m) + 13) 13 (kd (τ.2.2.1 i) (26 * (1 - m) + 13) 13)) (26 * (1 - m) + 0) 13 (kd (τ.2.2.1 i) (26 * (1 - m) + 0) 13) j = nI (τ.2.2.1 i j)
  by_cases c3 : 26 * (1 - m) + 0 ≤ j ∧ j < 26 * (1 - m) + 0 + 13
  · exact ph_in (d1 _ (by omega)) c3.1 c3.2
  · rw [ph_out (by omega)]
    by_cases c2 : 26 * (1 - m) + 13 ≤ j ∧ j < 26 * (1 - m) + 13 + 13
    · exact ph_in (d1 _ (by omega)) c2.1 c2.2
    · rw [ph_out (by omega)]
      by_cases c1 : 26 * m + 0 ≤ j ∧ j < 26 * m + 0 + 13
      · exact ph_in (d1 _ (by omega)) c1.1 c1.2
      · rw [ph_out (by omega)]
        exact ph_in (d1 _ (by omega)) (by omega) (by omega)
