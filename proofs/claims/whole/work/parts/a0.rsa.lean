theorem l2i_n (n : Nat) : (lN n).toInt32 = nI n := by
  apply Int32.toBitVec_inj.mp
  apply BitVec.eq_of_toNat_eq
  show (BitVec.signExtend 32 (BitVec.ofNat 64 n)).toNat = (BitVec.ofNat 32 n).toNat
  rw [BitVec.signExtend_eq_setWidth_of_le _ (by decide), BitVec.toNat_setWidth, BitVec.toNat_ofNat, BitVec.toNat_ofNat]
  exact Nat.mod_mod_of_dvd n (by decide)
theorem i_1023 (w : Nat) : nI w &&& 1023 = nI (w % 1024) := by
  have h3 : UInt32.ofNat w &&& UInt32.ofNat 1023 = UInt32.ofNat (w % 1024) := UInt32.toNat_inj.mp (by
    rw [UInt32.toNat_and, UInt32.toNat_ofNat', UInt32.toNat_ofNat', u3_tn (by omega)]
    have e := Nat.and_two_pow_sub_one_eq_mod (w % 2 ^ 32) 10
    rw [show (2 : Nat) ^ 10 - 1 = 1023 from rfl] at e
    rw [Nat.mod_eq_of_lt (show 1023 < 2 ^ 32 by decide), e, show (2 : Nat) ^ 10 = 1024 from rfl]
    omega)
  exact congrArg UInt32.toInt32 h3
theorem kd_sh (B : Nat → Nat) (o : Nat) : ∀ n, kd B o n = kd (fun k => B (o + k)) 0 n
  | 0 => rfl
  | n + 1 => by
    show kd B o n + B (o + n) * 16 ^ n = kd (fun k => B (o + k)) 0 n + B (o + (0 + n)) * 16 ^ n
    rw [kd_sh B o n, Nat.zero_add]
theorem kd_at {B : Nat → Nat} {o n j : Nat} (h : ∀ k, k < n → B (o + k) ≤ 15) (hj : j < n) : kd B o n / 16 ^ j % 16 = B (o + j) := by
  rw [kd_sh]; exact kd_div (D := fun k => B (o + k)) n h j hj
theorem mf_g {v j : Nat} (hv : v < 2 ^ 63) (hj : j < 13) : ((((lN v).toUInt64 >>> ((nI (4 * j)).toInt64.toUInt64 &&& Int64.toUInt64 63)).toInt64 : Int64).toInt32) &&& 15 = nI (v / 16 ^ j % 16) := by
  rw [wb_shr (by omega) (by omega), l2i_n, i_15, Nat.pow_mul]
theorem tb_len {P : Nat → Nat → Option Nat} {I A : Nat → Nat → Int32} {J : Nat → Nat → Int64} {pl : List Nat} {m : Nat} {τ : TB} (h : tbS P I A J pl m τ) : kC (300 + 2 * τ.2.2.2.2) = 14 ∧ 300 + 2 * τ.2.2.2.2 ∈ pl ∧ kC (301 + 2 * τ.2.2.2.2) = 13 ∧ 301 + 2 * τ.2.2.2.2 ∈ pl ∧ nC (300 + 2 * τ.2.2.2.2) = 240 * 2 ^ τ.2.2.2.2 ∧ nC (301 + 2 * τ.2.2.2.2) = 48 * 2 ^ τ.2.2.2.2 ∧ 2 ^ τ.2.2.2.2 ≤ 64 := by
  have hg := h.1.1
  obtain ⟨a, b, c, d⟩ := kR τ.2.2.2.2 (by omega)
  have m9 := (h.1.2 _ hg).1 (Nat.le_refl _)
  exact ⟨a, m9.1, b, m9.2, c, d, Nat.pow_le_pow_right (n := 2) (by decide) hg⟩

theorem r_6_forget_0 {X : Ctx} (F : Fx X cX6_forget RX6 1 1 0 0) {Φ : Option Value → HS → List Nat → Prop} (E : Ex X none 0 0 Φ) {P O : Nat → Nat → Option Nat} (hP : laP P) {I A : Nat → Nat → Int32} {J : Nat → Nat → Int64} {pl : List Nat} (hB : inB pl) {qc qo : Nat} (hk_qc : kC qc = 14) (hp_qc : qc ∈ pl) (hc9 : P 110 3 = some qc) (hk_qo : kC qo = 13) (hp_qo : qo ∈ pl) (ho9 : P 110 4 = some qo)
    (e_1 : Φ none (mC P O (up2 I 110 7 0) A J) pl) :
    WA X (mC P O I A J) pl 0 0 0 [(0, .ref 110)] [] := by
  refine a_aload_n F 0 dX6_forget_0 rfl rfl ?_
  refine a_iconst (v := 0) F dX6_forget_1 (by decide) ?_
  refine a_puti F fl_6_30 rfl rfl rfl rfl (hB _ (by decide)) rfl dX6_forget_2 ?_
  exact a_vret F E dX6_forget_5 (Nat.le_refl 0) (Nat.le_refl 0) (e_1)

set_option maxRecDepth 10000 in
theorem c_6_forget (l : Launch) {P O : Nat → Nat → Option Nat} (hP : laP P) (I A : Nat → Nat → Int32) (J : Nat → Nat → Int64) {pl : List Nat} (hB : inB pl) (m : Nat) (τ : TB) (ht : tbS P I A J pl m τ) : Con l 1 yX6_forget cX6_forget 1 none [.ref 110] (mC P O I A J) pl 0 0 (PC none P O (up2 I 110 7 0) A J pl) := by
  refine Con.of (by decide) (Nat.le_of_ble_eq_true rfl) (fun X hX9 hn9 F E => ?_)
  obtain ⟨k1, k2, k3, k4, -⟩ := tb_len ht
  exact r_6_forget_0 F E hP hB k1 k2 ht.2.1 k3 k4 ht.2.2.1 ⟨rfl, rfl, rfl⟩

theorem r_6_menOf_0 {X : Ctx} (F : Fx X cX6_menOf RX6 6 1 0 0) {Φ : Option Value → HS → List Nat → Prop} (E : Ex X (some .int) 0 0 Φ) {P O : Nat → Nat → Option Nat} (hP : laP P) {I A : Nat → Nat → Int32} {J : Nat → Nat → Int64} {pl : List Nat} (hB : inB pl) {qc qo : Nat} (hk_qc : kC qc = 14) (hp_qc : qc ∈ pl) (hc9 : P 110 3 = some qc) (hk_qo : kC qo = 13) (hp_qo : qo ∈ pl) (ho9 : P 110 4 = some qo) {x1 x2 x3 : Int32}
    (o_1 : (¬ x2 = (I 110 6)) → (x3 ≤ 12) → vp_in x1 (nC qo))
    (o_2 : (¬ x2 = (I 110 6)) → (x3 ≤ 12) → vp_in (((A qo x1.toNatClampNeg) * 5) + (2 + 1)) (nC qc))
    (e_3 : (¬ x2 = (I 110 6)) → (x3 ≤ 12) → Φ (some (.int ((((((J qc (((A qo x1.toNatClampNeg) * 5) + (2 + 1)).toNatClampNeg) : Int64).toUInt64 >>> (((4 * (x3 - 0)) : Int32).toInt64.toUInt64 &&& Int64.toUInt64 63)).toInt64 : Int64).toInt32) &&& 15))) (mC P O I A J) pl)
    (o_4 : (¬ x2 = (I 110 6)) → (¬ (x3 ≤ 12)) → vp_in x1 (nC qo))
    (o_5 : (¬ x2 = (I 110 6)) → (¬ (x3 ≤ 12)) → vp_in (((A qo x1.toNatClampNeg) * 5) + (2 + 0)) (nC qc))
    (e_6 : (¬ x2 = (I 110 6)) → (¬ (x3 ≤ 12)) → Φ (some (.int ((((((J qc (((A qo x1.toNatClampNeg) * 5) + (2 + 0)).toNatClampNeg) : Int64).toUInt64 >>> (((4 * (x3 - 13)) : Int32).toInt64.toUInt64 &&& Int64.toUInt64 63)).toInt64 : Int64).toInt32) &&& 15))) (mC P O I A J) pl)
    (o_7 : (x2 = (I 110 6)) → (x3 ≤ 12) → vp_in x1 (nC qo))
    (o_8 : (x2 = (I 110 6)) → (x3 ≤ 12) → vp_in (((A qo x1.toNatClampNeg) * 5) + (0 + 1)) (nC qc))
    (e_9 : (x2 = (I 110 6)) → (x3 ≤ 12) → Φ (some (.int ((((((J qc (((A qo x1.toNatClampNeg) * 5) + (0 + 1)).toNatClampNeg) : Int64).toUInt64 >>> (((4 * (x3 - 0)) : Int32).toInt64.toUInt64 &&& Int64.toUInt64 63)).toInt64 : Int64).toInt32) &&& 15))) (mC P O I A J) pl)
    (o_10 : (x2 = (I 110 6)) → (¬ (x3 ≤ 12)) → vp_in x1 (nC qo))
    (o_11 : (x2 = (I 110 6)) → (¬ (x3 ≤ 12)) → vp_in (((A qo x1.toNatClampNeg) * 5) + (0 + 0)) (nC qc))
    (e_12 : (x2 = (I 110 6)) → (¬ (x3 ≤ 12)) → Φ (some (.int ((((((J qc (((A qo x1.toNatClampNeg) * 5) + (0 + 0)).toNatClampNeg) : Int64).toUInt64 >>> (((4 * (x3 - 13)) : Int32).toInt64.toUInt64 &&& Int64.toUInt64 63)).toInt64 : Int64).toInt32) &&& 15))) (mC P O I A J) pl) :
    WA X (mC P O I A J) pl 0 0 0 [(0, .ref 110), (1, .int x1), (2, .int x2), (3, .int x3)] [] := by
  refine a_iload_n F 2 dX6_menOf_0 rfl rfl ?_
  refine a_aload_n F 0 dX6_menOf_1 rfl rfl ?_
  refine a_geti F fl_6_42 rfl (hB _ (by decide)) rfl dX6_menOf_2 ?_
  refine a_icmp_ne (tgt := 12) F dX6_menOf_5 (by decide) (fun (c_1 : ¬ x2 = (I 110 6)) => ?_) (fun (c_1 : x2 = (I 110 6)) => ?_)
  · refine a_iconst (v := 2) F dX6_menOf_12 (by decide) ?_
    refine a_iload_n F 3 dX6_menOf_13 rfl rfl ?_
    refine a_bipush (v := 12) F dX6_menOf_14 (by decide) ?_
    refine a_icmp_le (tgt := 23) F dX6_menOf_16 (by decide) (fun (c_2 : x3 ≤ 12) => ?_) (fun (c_2 : ¬ (x3 ≤ 12)) => ?_)
    · refine a_iconst (v := 1) F dX6_menOf_23 (by decide) ?_
      refine a_iadd F dX6_menOf_24 ?_
      refine a_istore F dX6_menOf_25 (by decide) rfl ?_
      refine a_iload_n F 4 dX6_menOf_27 rfl rfl ?_
      refine a_bipush (v := 12) F dX6_menOf_28 (by decide) ?_
      refine a_icmp_le (tgt := 38) F dX6_menOf_30 (by decide) (fun (c_3 : x3 ≤ 12) => ?_) (fun (c_3 : ¬ (x3 ≤ 12)) => ?_)
      · refine a_iconst (v := 0) F dX6_menOf_38 (by decide) ?_
        refine a_istore F dX6_menOf_39 (by decide) rfl ?_
        refine a_aload_n F 2 dX6_menOf_41 rfl rfl ?_
        refine a_getr (b := qc) F fl_6_19 rfl (hB _ (by decide)) rfl hc9 dX6_menOf_42 ?_
        refine a_aload_n F 2 dX6_menOf_45 rfl rfl ?_
        refine a_getr (b := qo) F fl_6_22 rfl (hB _ (by decide)) rfl ho9 dX6_menOf_46 ?_
        refine a_iload_n F 3 dX6_menOf_49 rfl rfl ?_
        refine a_iald F (hp_qo) hk_qo (o_1 c_1 c_2) dX6_menOf_50 ?_
        refine a_iconst (v := 5) F dX6_menOf_51 (by decide) ?_
        refine a_imul F dX6_menOf_52 ?_
        refine a_iload F 1 dX6_menOf_53 rfl ?_
        refine a_iadd F dX6_menOf_55 ?_
        refine a_lald F (hp_qc) hk_qc (o_2 c_1 c_2) dX6_menOf_56 ?_
        refine a_iconst (v := 4) F dX6_menOf_57 (by decide) ?_
        refine a_iload_n F 5 dX6_menOf_58 rfl rfl ?_
        refine a_iload F 0 dX6_menOf_59 rfl ?_
        refine a_isub F dX6_menOf_61 ?_
        refine a_imul F dX6_menOf_62 ?_
        refine a_lushr F dX6_menOf_63 ?_
        refine a_l2i F dX6_menOf_64 ?_
        refine a_bipush (v := 15) F dX6_menOf_65 (by decide) ?_
        refine a_iand F dX6_menOf_67 ?_
        exact a_iret F E dX6_menOf_68 (Nat.le_refl 0) (Nat.le_refl 0) (e_3 c_1 c_2)
      · exact absurd c_2 c_3
    · refine a_iconst (v := 0) F dX6_menOf_19 (by decide) ?_
      refine a_goto (tgt := 24) F dX6_menOf_20 (by decide) ?_
      refine a_iadd F dX6_menOf_24 ?_
      refine a_istore F dX6_menOf_25 (by decide) rfl ?_
      refine a_iload_n F 4 dX6_menOf_27 rfl rfl ?_
      refine a_bipush (v := 12) F dX6_menOf_28 (by decide) ?_
      refine a_icmp_le (tgt := 38) F dX6_menOf_30 (by decide) (fun (c_4 : x3 ≤ 12) => ?_) (fun (c_4 : ¬ (x3 ≤ 12)) => ?_)
      · exact absurd c_4 c_2
      · refine a_bipush (v := 13) F dX6_menOf_33 (by decide) ?_
        refine a_goto (tgt := 39) F dX6_menOf_35 (by decide) ?_
        refine a_istore F dX6_menOf_39 (by decide) rfl ?_
        refine a_aload_n F 2 dX6_menOf_41 rfl rfl ?_
        refine a_getr (b := qc) F fl_6_19 rfl (hB _ (by decide)) rfl hc9 dX6_menOf_42 ?_
        refine a_aload_n F 2 dX6_menOf_45 rfl rfl ?_
        refine a_getr (b := qo) F fl_6_22 rfl (hB _ (by decide)) rfl ho9 dX6_menOf_46 ?_
        refine a_iload_n F 3 dX6_menOf_49 rfl rfl ?_
        refine a_iald F (hp_qo) hk_qo (o_4 c_1 c_2) dX6_menOf_50 ?_
        refine a_iconst (v := 5) F dX6_menOf_51 (by decide) ?_
        refine a_imul F dX6_menOf_52 ?_
        refine a_iload F 1 dX6_menOf_53 rfl ?_
        refine a_iadd F dX6_menOf_55 ?_
        refine a_lald F (hp_qc) hk_qc (o_5 c_1 c_2) dX6_menOf_56 ?_
        refine a_iconst (v := 4) F dX6_menOf_57 (by decide) ?_
        refine a_iload_n F 5 dX6_menOf_58 rfl rfl ?_
        refine a_iload F 0 dX6_menOf_59 rfl ?_
        refine a_isub F dX6_menOf_61 ?_
        refine a_imul F dX6_menOf_62 ?_
        refine a_lushr F dX6_menOf_63 ?_
        refine a_l2i F dX6_menOf_64 ?_
        refine a_bipush (v := 15) F dX6_menOf_65 (by decide) ?_
        refine a_iand F dX6_menOf_67 ?_
        exact a_iret F E dX6_menOf_68 (Nat.le_refl 0) (Nat.le_refl 0) (e_6 c_1 c_2)
  · refine a_iconst (v := 0) F dX6_menOf_8 (by decide) ?_
    refine a_goto (tgt := 13) F dX6_menOf_9 (by decide) ?_
    refine a_iload_n F 3 dX6_menOf_13 rfl rfl ?_
    refine a_bipush (v := 12) F dX6_menOf_14 (by decide) ?_
    refine a_icmp_le (tgt := 23) F dX6_menOf_16 (by decide) (fun (c_5 : x3 ≤ 12) => ?_) (fun (c_5 : ¬ (x3 ≤ 12)) => ?_)
    · refine a_iconst (v := 1) F dX6_menOf_23 (by decide) ?_
      refine a_iadd F dX6_menOf_24 ?_
      refine a_istore F dX6_menOf_25 (by decide) rfl ?_
      refine a_iload_n F 4 dX6_menOf_27 rfl rfl ?_
      refine a_bipush (v := 12) F dX6_menOf_28 (by decide) ?_
      refine a_icmp_le (tgt := 38) F dX6_menOf_30 (by decide) (fun (c_6 : x3 ≤ 12) => ?_) (fun (c_6 : ¬ (x3 ≤ 12)) => ?_)
      · refine a_iconst (v := 0) F dX6_menOf_38 (by decide) ?_
        refine a_istore F dX6_menOf_39 (by decide) rfl ?_
        refine a_aload_n F 2 dX6_menOf_41 rfl rfl ?_
        refine a_getr (b := qc) F fl_6_19 rfl (hB _ (by decide)) rfl hc9 dX6_menOf_42 ?_
        refine a_aload_n F 2 dX6_menOf_45 rfl rfl ?_
        refine a_getr (b := qo) F fl_6_22 rfl (hB _ (by decide)) rfl ho9 dX6_menOf_46 ?_
        refine a_iload_n F 3 dX6_menOf_49 rfl rfl ?_
        refine a_iald F (hp_qo) hk_qo (o_7 c_1 c_5) dX6_menOf_50 ?_
        refine a_iconst (v := 5) F dX6_menOf_51 (by decide) ?_
        refine a_imul F dX6_menOf_52 ?_
        refine a_iload F 1 dX6_menOf_53 rfl ?_
        refine a_iadd F dX6_menOf_55 ?_
        refine a_lald F (hp_qc) hk_qc (o_8 c_1 c_5) dX6_menOf_56 ?_
        refine a_iconst (v := 4) F dX6_menOf_57 (by decide) ?_
        refine a_iload_n F 5 dX6_menOf_58 rfl rfl ?_
        refine a_iload F 0 dX6_menOf_59 rfl ?_
        refine a_isub F dX6_menOf_61 ?_
        refine a_imul F dX6_menOf_62 ?_
        refine a_lushr F dX6_menOf_63 ?_
        refine a_l2i F dX6_menOf_64 ?_
        refine a_bipush (v := 15) F dX6_menOf_65 (by decide) ?_
        refine a_iand F dX6_menOf_67 ?_
        exact a_iret F E dX6_menOf_68 (Nat.le_refl 0) (Nat.le_refl 0) (e_9 c_1 c_5)
      · exact absurd c_5 c_6
    · refine a_iconst (v := 0) F dX6_menOf_19 (by decide) ?_
      refine a_goto (tgt := 24) F dX6_menOf_20 (by decide) ?_
      refine a_iadd F dX6_menOf_24 ?_
      refine a_istore F dX6_menOf_25 (by decide) rfl ?_
      refine a_iload_n F 4 dX6_menOf_27 rfl rfl ?_
      refine a_bipush (v := 12) F dX6_menOf_28 (by decide) ?_
      refine a_icmp_le (tgt := 38) F dX6_menOf_30 (by decide) (fun (c_7 : x3 ≤ 12) => ?_) (fun (c_7 : ¬ (x3 ≤ 12)) => ?_)
      · exact absurd c_7 c_5
      · refine a_bipush (v := 13) F dX6_menOf_33 (by decide) ?_
        refine a_goto (tgt := 39) F dX6_menOf_35 (by decide) ?_
        refine a_istore F dX6_menOf_39 (by decide) rfl ?_
        refine a_aload_n F 2 dX6_menOf_41 rfl rfl ?_
        refine a_getr (b := qc) F fl_6_19 rfl (hB _ (by decide)) rfl hc9 dX6_menOf_42 ?_
        refine a_aload_n F 2 dX6_menOf_45 rfl rfl ?_
        refine a_getr (b := qo) F fl_6_22 rfl (hB _ (by decide)) rfl ho9 dX6_menOf_46 ?_
        refine a_iload_n F 3 dX6_menOf_49 rfl rfl ?_
        refine a_iald F (hp_qo) hk_qo (o_10 c_1 c_5) dX6_menOf_50 ?_
        refine a_iconst (v := 5) F dX6_menOf_51 (by decide) ?_
        refine a_imul F dX6_menOf_52 ?_
        refine a_iload F 1 dX6_menOf_53 rfl ?_
        refine a_iadd F dX6_menOf_55 ?_
        refine a_lald F (hp_qc) hk_qc (o_11 c_1 c_5) dX6_menOf_56 ?_
        refine a_iconst (v := 4) F dX6_menOf_57 (by decide) ?_
        refine a_iload_n F 5 dX6_menOf_58 rfl rfl ?_
        refine a_iload F 0 dX6_menOf_59 rfl ?_
        refine a_isub F dX6_menOf_61 ?_
        refine a_imul F dX6_menOf_62 ?_
        refine a_lushr F dX6_menOf_63 ?_
        refine a_l2i F dX6_menOf_64 ?_
        refine a_bipush (v := 15) F dX6_menOf_65 (by decide) ?_
        refine a_iand F dX6_menOf_67 ?_
        exact a_iret F E dX6_menOf_68 (Nat.le_refl 0) (Nat.le_refl 0) (e_12 c_1 c_5)

set_option maxRecDepth 100000 in
theorem c_6_menOf (l : Launch) {P O : Nat → Nat → Option Nat} (hP : laP P) (I A : Nat → Nat → Int32) (J : Nat → Nat → Int64) {pl : List Nat} (hB : inB pl) (m i q pt : Nat) (τ : TB) (hm : m ≤ 1) (ht : tbS P I A J pl m τ) (hi : i < τ.2.1) (hq : q ≤ 1) (hpt : pt ≤ 25) : Con l 1 yX6_menOf cX6_menOf 6 (some .int) [.ref 110, .int (nI i), .int (nI q), .int (nI pt)] (mC P O I A J) pl 0 0 (PC (some (.int (nI (τ.2.2.1 i (26 * q + pt))))) P O I A J pl) := by
  refine Con.of (by decide) (Nat.le_of_ble_eq_true rfl) (fun X hX9 hn9 F E => ?_)
  obtain ⟨k1, k2, k3, k4, k5, k6, k7⟩ := tb_len ht
  obtain ⟨hM, t3, t4, t5, t6, t7, tc, ts, o, tr⟩ := ht
  have oi := tr.1 i hi
  obtain ⟨di, ki⟩ := tr.2.2.1 i hi
  have vi : vp_in (nI i) (nC (301 + 2 * τ.2.2.2.2)) := by rw [k6]; exact vp_in_nI (by omega) (by omega)
  have cm : nI q = I 110 6 ↔ q = m := by rw [t6]; exact nI_eq (by omega) (by omega)
  have lp : nI pt ≤ 12 ↔ pt ≤ 12 := nI_len 12 (by omega) (by omega)
  refine r_6_menOf_0 F E hP hB k1 k2 t3 k3 k4 t4 (fun _ _ => vi) (fun _ _ => by
    have e4 : A (301 + 2 * τ.2.2.2.2) (nI i).toNatClampNeg * 5 + (2 + 1) = nI (5 * o i + (2 + 1)) := by
      rw [nI_clamp (by omega), oi.1, show nI (o i) * 5 = nI (o i * 5) from (Int32.ofNat_mul (o i) 5).symm, Nat.mul_comm]; exact nI_add _ (2 + 1)
    rw [e4]; exact vp_in_nI (by omega) (by omega)) (fun z w => ?_) (fun _ _ => vi) (fun _ _ => by
    have e4 : A (301 + 2 * τ.2.2.2.2) (nI i).toNatClampNeg * 5 + (2 + 0) = nI (5 * o i + (2 + 0)) := by
      rw [nI_clamp (by omega), oi.1, show nI (o i) * 5 = nI (o i * 5) from (Int32.ofNat_mul (o i) 5).symm, Nat.mul_comm]; exact nI_add _ (2 + 0)
    rw [e4]; exact vp_in_nI (by omega) (by omega)) (fun z w => ?_) (fun _ _ => vi) (fun _ _ => by
    have e4 : A (301 + 2 * τ.2.2.2.2) (nI i).toNatClampNeg * 5 + (0 + 1) = nI (5 * o i + (0 + 1)) := by
      rw [nI_clamp (by omega), oi.1, show nI (o i) * 5 = nI (o i * 5) from (Int32.ofNat_mul (o i) 5).symm, Nat.mul_comm]; exact nI_add _ (0 + 1)
    rw [e4]; exact vp_in_nI (by omega) (by omega)) (fun z w => ?_) (fun _ _ => vi) (fun _ _ => by
    have e4 : A (301 + 2 * τ.2.2.2.2) (nI i).toNatClampNeg * 5 + (0 + 0) = nI (5 * o i + (0 + 0)) := by
      rw [nI_clamp (by omega), oi.1, show nI (o i) * 5 = nI (o i * 5) from (Int32.ofNat_mul (o i) 5).symm, Nat.mul_comm]; exact nI_add _ (0 + 0)
    rw [e4]; exact vp_in_nI (by omega) (by omega)) (fun z w => ?_)
  · have e4 : A (301 + 2 * τ.2.2.2.2) (nI i).toNatClampNeg * 5 + (2 + 1) = nI (5 * o i + (2 + 1)) := by
      rw [nI_clamp (by omega), oi.1, show nI (o i) * 5 = nI (o i * 5) from (Int32.ofNat_mul (o i) 5).symm, Nat.mul_comm]; exact nI_add _ (2 + 1)
    have ep : (4 : Int32) * (nI pt - 0) = nI (4 * (pt - 0)) := by rw [show nI pt - 0 = nI (pt - 0) from pk_sub (b := 0) (by have := lp.mp w; omega)]; exact (Int32.ofNat_mul 4 (pt - 0)).symm
    have hw := lp.mp w
    have hz := mt cm.mpr z
    rw [e4, nI_clamp (by omega), (show J (300 + 2 * τ.2.2.2.2) (5 * o i + (2 + 1)) = _ from ki (2 + 1) (by decide)), ep, mf_g (hv_63 hm di) (by omega)]
    have := kd_at (B := τ.2.2.1 i) (o := 26 * (1 - m) + 0) (n := 13) (j := pt - 0) (fun k hk => di _ (by omega)) (by omega)
    rw [show hvF m (τ.2.2.1 i) (2 + 1) = kd (τ.2.2.1 i) (26 * (1 - m) + 0) 13 from rfl, this, show 26 * (1 - m) + 0 + (pt - 0) = 26 * q + pt by omega]
    exact ⟨rfl, rfl, rfl⟩
  · have e4 : A (301 + 2 * τ.2.2.2.2) (nI i).toNatClampNeg * 5 + (2 + 0) = nI (5 * o i + (2 + 0)) := by
      rw [nI_clamp (by omega), oi.1, show nI (o i) * 5 = nI (o i * 5) from (Int32.ofNat_mul (o i) 5).symm, Nat.mul_comm]; exact nI_add _ (2 + 0)
    have ep : (4 : Int32) * (nI pt - 13) = nI (4 * (pt - 13)) := by rw [show nI pt - 13 = nI (pt - 13) from pk_sub (b := 13) (by have := mt lp.mpr w; omega)]; exact (Int32.ofNat_mul 4 (pt - 13)).symm
    have hw := mt lp.mpr w
    have hz := mt cm.mpr z
    rw [e4, nI_clamp (by omega), (show J (300 + 2 * τ.2.2.2.2) (5 * o i + (2 + 0)) = _ from ki (2 + 0) (by decide)), ep, mf_g (hv_63 hm di) (by omega)]
    have := kd_at (B := τ.2.2.1 i) (o := 26 * (1 - m) + 13) (n := 13) (j := pt - 13) (fun k hk => di _ (by omega)) (by omega)
    rw [show hvF m (τ.2.2.1 i) (2 + 0) = kd (τ.2.2.1 i) (26 * (1 - m) + 13) 13 from rfl, this, show 26 * (1 - m) + 13 + (pt - 13) = 26 * q + pt by omega]
    exact ⟨rfl, rfl, rfl⟩
  · have e4 : A (301 + 2 * τ.2.2.2.2) (nI i).toNatClampNeg * 5 + (0 + 1) = nI (5 * o i + (0 + 1)) := by
      rw [nI_clamp (by omega), oi.1, show nI (o i) * 5 = nI (o i * 5) from (Int32.ofNat_mul (o i) 5).symm, Nat.mul_comm]; exact nI_add _ (0 + 1)
    have ep : (4 : Int32) * (nI pt - 0) = nI (4 * (pt - 0)) := by rw [show nI pt - 0 = nI (pt - 0) from pk_sub (b := 0) (by have := lp.mp w; omega)]; exact (Int32.ofNat_mul 4 (pt - 0)).symm
    have hw := lp.mp w
    have hz := cm.mp z
    rw [e4, nI_clamp (by omega), (show J (300 + 2 * τ.2.2.2.2) (5 * o i + (0 + 1)) = _ from ki (0 + 1) (by decide)), ep, mf_g (hv_63 hm di) (by omega)]
    have := kd_at (B := τ.2.2.1 i) (o := 26 * m + 0) (n := 13) (j := pt - 0) (fun k hk => di _ (by omega)) (by omega)
    rw [show hvF m (τ.2.2.1 i) (0 + 1) = kd (τ.2.2.1 i) (26 * m + 0) 13 from rfl, this, show 26 * m + 0 + (pt - 0) = 26 * q + pt by omega]
    exact ⟨rfl, rfl, rfl⟩
  · have e4 : A (301 + 2 * τ.2.2.2.2) (nI i).toNatClampNeg * 5 + (0 + 0) = nI (5 * o i + (0 + 0)) := by
      rw [nI_clamp (by omega), oi.1, show nI (o i) * 5 = nI (o i * 5) from (Int32.ofNat_mul (o i) 5).symm, Nat.mul_comm]; exact nI_add _ (0 + 0)
    have ep : (4 : Int32) * (nI pt - 13) = nI (4 * (pt - 13)) := by rw [show nI pt - 13 = nI (pt - 13) from pk_sub (b := 13) (by have := mt lp.mpr w; omega)]; exact (Int32.ofNat_mul 4 (pt - 13)).symm
    have hw := mt lp.mpr w
    have hz := cm.mp z
    rw [e4, nI_clamp (by omega), (show J (300 + 2 * τ.2.2.2.2) (5 * o i + (0 + 0)) = _ from ki (0 + 0) (by decide)), ep, mf_g (hv_63 hm di) (by omega)]
    have := kd_at (B := τ.2.2.1 i) (o := 26 * m + 13) (n := 13) (j := pt - 13) (fun k hk => di _ (by omega)) (by omega)
    rw [show hvF m (τ.2.2.1 i) (0 + 0) = kd (τ.2.2.1 i) (26 * m + 13) 13 from rfl, this, show 26 * m + 13 + (pt - 13) = 26 * q + pt by omega]
    exact ⟨rfl, rfl, rfl⟩
