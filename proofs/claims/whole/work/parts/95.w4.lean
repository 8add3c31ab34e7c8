theorem c_10_remainderI (l : Launch) {P O : Nat → Nat → Option Nat} (hP : laP P) (I A : Nat → Nat → Int32) (J : Nat → Nat → Int64) {pl : List Nat} (hB : inB pl) (p : Nat) (hk_p : kC p = 10) (hp_p : p ∈ pl) (hq_p : p + 1 ∈ pl) (x : Int32) (hd : digW (J (p + 1)) 6) (hx : 1 ≤ x ∧ x ≤ 64) : Con l 1 yX10_remainder cX10_remainder 5 (some .int) [.ref p, .int x] (mC P O I A J) pl 0 0 (PC (some (.int (nI (valW (J (p + 1)) 6 % x.toNatClampNeg)))) P O I A J pl) := by
  obtain ⟨c, hc, rfl⟩ := nI_of2 (x := x) (M := 64) (n := 64) rfl (by grind) hx.2
  have h1 := (nI_gen 1 (by omega) (by omega)).mp hx.1
  rw [nI_clamp (by omega)]
  exact c_10_remainder l hP I A J hB p hk_p hp_p hq_p c hd h1 hc
theorem c_10_divideI (l : Launch) {P O : Nat → Nat → Option Nat} (hP : laP P) (I A : Nat → Nat → Int32) (J : Nat → Nat → Int64) {pl : List Nat} (hB : inB pl) (p : Nat) (hk_p : kC p = 10) (hp_p : p ∈ pl) (hq_p : p + 1 ∈ pl) (x : Int32) (hd : digW (J (p + 1)) 6) (hx : 1 ≤ x ∧ x ≤ 64) : Con l 1 yX10_divide cX10_divide 7 none [.ref p, .int x] (mC P O I A J) pl 0 0 (PC none P O I A (up1 J (p + 1) (putW (J (p + 1)) 6 (valW (J (p + 1)) 6 / x.toNatClampNeg))) pl) := by
  obtain ⟨c, hc, rfl⟩ := nI_of2 (x := x) (M := 64) (n := 64) rfl (by grind) hx.2
  have h1 := (nI_gen 1 (by omega) (by omega)).mp hx.1
  rw [nI_clamp (by omega)]
  exact c_10_divide l hP I A J hB p hk_p hp_p hq_p c hd h1 hc
theorem c_10_multiplyI (l : Launch) {P O : Nat → Nat → Option Nat} (hP : laP P) (I A : Nat → Nat → Int32) (J : Nat → Nat → Int64) {pl : List Nat} (hB : inB pl) (p : Nat) (hk_p : kC p = 10) (hp_p : p ∈ pl) (hq_p : p + 1 ∈ pl) (x : Int32) (hd : digW (J (p + 1)) 6) (hx : 1 ≤ x ∧ x ≤ 64) : Con l 1 yX10_multiply cX10_multiply 5 none [.ref p, .int x] (mC P O I A J) pl 0 0 (PC none P O I A (up1 J (p + 1) (putW (J (p + 1)) 6 (valW (J (p + 1)) 6 * x.toNatClampNeg))) pl) := by
  obtain ⟨c, hc, rfl⟩ := nI_of2 (x := x) (M := 64) (n := 64) rfl (by grind) hx.2
  have h1 := (nI_gen 1 (by omega) (by omega)).mp hx.1
  rw [nI_clamp (by omega)]
  exact c_10_multiply l hP I A J hB p hk_p hp_p hq_p c hd h1 hc
theorem c_10_setL (l : Launch) {P O : Nat → Nat → Option Nat} (hP : laP P) (I A : Nat → Nat → Int32) (J : Nat → Nat → Int64) {pl : List Nat} (hB : inB pl) (p : Nat) (hk_p : kC p = 10) (hp_p : p ∈ pl) (hq_p : p + 1 ∈ pl) (y : Int64) (hy : ¬ y < 0) : Con l 2 yX10_set cX10_set 3 none [.ref p, .long y] (mC P O I A J) pl 0 0 (PC none P O I A (up1 J (p + 1) (putW (J (p + 1)) 6 y.toNatClampNeg)) pl) := by
  obtain ⟨v, hv, rfl⟩ := pk_lOf hy
  rw [l_clamp hv]
  exact c_10_set l hP I A J hB p hk_p hp_p hq_p v hv
def szL (x : Int32) : Prop := ∃ n, n < 400 ∧ x = nI n
theorem c_1_addI (l : Launch) {P O : Nat → Nat → Option Nat} (hP : laP P) (I A : Nat → Nat → Int32) (J : Nat → Nat → Int64) {pl : List Nat} (hB : inB pl) (p : Nat) (hk_p : kC p = 1) (hp_p : p ∈ pl) (hq_p : p + 1 ∈ pl) (v : Int32) (hs : szL (I p 1)) : Con l 1 yX1_add cX1_add 2 none [.ref p, .int v] (mC P O I A J) pl 0 0 (PC none P O (up2 I p 1 (I p 1 + 1)) (up1 A (p + 1) (upd (A (p + 1)) (I p 1).toNatClampNeg (v &&& 255))) J pl) := by
  obtain ⟨n, hn, e⟩ := hs
  rw [e, nI_clamp (by omega), nI_1]
  exact c_1_add l hP I A J hB p hk_p hp_p hq_p v n hn e
theorem i_255 (w : Nat) : nI w &&& 255 = nI (w % 256) := by
  have h3 : UInt32.ofNat w &&& UInt32.ofNat 255 = UInt32.ofNat (w % 256) := UInt32.toNat_inj.mp (by
    rw [UInt32.toNat_and, UInt32.toNat_ofNat', UInt32.toNat_ofNat', u3_tn (by omega)]
    have e := Nat.and_two_pow_sub_one_eq_mod (w % 2 ^ 32) 8
    rw [show (2 : Nat) ^ 8 - 1 = 255 from rfl] at e
    rw [Nat.mod_eq_of_lt (show 255 < 2 ^ 32 by decide), e, show (2 : Nat) ^ 8 = 256 from rfl]
    omega)
  exact congrArg UInt32.toInt32 h3
def whC (P O : Nat → Nat → Option Nat) (I A : Nat → Nat → Int32) (J : Nat → Nat → Int64) (pl : List Nat) (q v o : Nat) : Option Value → HS → List Nat → Prop := fun r σ' pl' => ∃ I' A' J' n, r = none ∧ σ' = mC P O I' A' J' ∧ pl = pl' ∧ (∀ p k, ¬ (p = 122 ∧ k = 1) → I' p k = I p k) ∧ I' 122 1 = nI (o + n) ∧ numD v n ∧ n ≤ 56 ∧ (∀ i, i < n → A' 123 (o + i) = nI (dcd v n i)) ∧ (∀ j, j < o → A' 123 j = A 123 j) ∧ (∀ p, p ≠ 123 → p ≠ 127 → A' p = A p) ∧ (∀ p, p ≠ q + 1 → J' p = J p) ∧ digW (J' (q + 1)) 6
theorem dcd_lt (v n i : Nat) : dcd v n i < 256 := by unfold dcd; have := Nat.mod_lt (v / 10 ^ (n - 1 - i)) (show 0 < 10 by decide); omega

theorem r_4_printWhole_0 {X : Ctx} (F : Fx X cX4_printWhole RX4 4 2 0 0) {P O : Nat → Nat → Option Nat} (hP : laP P) {I A : Nat → Nat → Int32} {J : Nat → Nat → Int64} {pl : List Nat} (hB : inB pl) {q1 : Nat} (hk_q1 : kC q1 = 10) (hp_q1 : q1 ∈ pl) (hq_q1 : q1 + 1 ∈ pl)
    (e_1 : WA X (mC P O I A J) pl 0 0 2 [(0, .ref 126), (1, .ref q1), (2, .int 0)] []) :
    WA X (mC P O I A J) pl 0 0 0 [(0, .ref 126), (1, .ref q1)] [] := by
  refine a_iconst (v := 0) F dX4_printWhole_0 (by decide) ?_
  refine a_istore_n F dX4_printWhole_1 rfl (by decide) rfl ?_
  refine a_sub [1, 2, 0] rfl ?_
  exact e_1

theorem r_4_printWhole_2 {X : Ctx} (F : Fx X cX4_printWhole RX4 4 2 0 0) {P O : Nat → Nat → Option Nat} (hP : laP P) {I A : Nat → Nat → Int32} {J : Nat → Nat → Int64} {pl : List Nat} (hB : inB pl) {x2 : Int32} {q1 : Nat} (hk_q1 : kC q1 = 10) (hp_q1 : q1 ∈ pl) (hq_q1 : q1 + 1 ∈ pl)
    (o_1 : digW (J (q1 + 1)) 6)
    (o_2 : 1 ≤ (10 : Int32) ∧ (10 : Int32) ≤ 64)
    (o_3 : vp_in x2 60)
    (o_4 : digW (J (q1 + 1)) 6)
    (o_5 : 1 ≤ (10 : Int32) ∧ (10 : Int32) ≤ 64)
    (e_6 : (60 ≤ (x2 + 1)) → WA X (mC P O I (up1 A 127 (upd (A 127) x2.toNatClampNeg (nI (valW (J (q1 + 1)) 6 % (10 : Int32).toNatClampNeg)))) (up1 J (q1 + 1) (putW (J (q1 + 1)) 6 (valW (J (q1 + 1)) 6 / (10 : Int32).toNatClampNeg)))) pl 0 0 36 [(0, .ref 126), (1, .ref q1), (2, .int (x2 + 1))] [])
    (o_7 : (¬ (60 ≤ (x2 + 1))) → digW ((up1 J (q1 + 1) (putW (J (q1 + 1)) 6 (valW (J (q1 + 1)) 6 / (10 : Int32).toNatClampNeg))) (q1 + 1)) 6)
    (e_8 : (¬ (60 ≤ (x2 + 1))) → (valW ((up1 J (q1 + 1) (putW (J (q1 + 1)) 6 (valW (J (q1 + 1)) 6 / (10 : Int32).toNatClampNeg))) (q1 + 1)) 6 = 0) → WA X (mC P O I (up1 A 127 (upd (A 127) x2.toNatClampNeg (nI (valW (J (q1 + 1)) 6 % (10 : Int32).toNatClampNeg)))) (up1 J (q1 + 1) (putW (J (q1 + 1)) 6 (valW (J (q1 + 1)) 6 / (10 : Int32).toNatClampNeg)))) pl 0 0 36 [(0, .ref 126), (1, .ref q1), (2, .int (x2 + 1))] [])
    (e_9 : (¬ (60 ≤ (x2 + 1))) → (¬ (valW ((up1 J (q1 + 1) (putW (J (q1 + 1)) 6 (valW (J (q1 + 1)) 6 / (10 : Int32).toNatClampNeg))) (q1 + 1)) 6 = 0)) → WA X (mC P O I (up1 A 127 (upd (A 127) x2.toNatClampNeg (nI (valW (J (q1 + 1)) 6 % (10 : Int32).toNatClampNeg)))) (up1 J (q1 + 1) (putW (J (q1 + 1)) 6 (valW (J (q1 + 1)) 6 / (10 : Int32).toNatClampNeg)))) pl 0 0 2 [(0, .ref 126), (1, .ref q1), (2, .int (x2 + 1))] []) :
    WA X (mC P O I A J) pl 0 0 2 [(0, .ref 126), (1, .ref q1), (2, .int x2)] [] := by
  refine a_aload_n F 0 dX4_printWhole_2 rfl rfl ?_
  refine a_getr (b := 127) F fl_4_16 rfl (hB _ (by decide)) rfl ((hP 126 2 (by decide)).trans rfl) dX4_printWhole_3 ?_
  refine a_iload_n F 2 dX4_printWhole_6 rfl rfl ?_
  refine a_aload_n F 1 dX4_printWhole_7 rfl rfl ?_
  refine a_bipush (v := 10) F dX4_printWhole_8 (by decide) ?_
  refine a_callV (b := q1) (As := [.int 10]) (st := [.int x2, .ref 127]) (ci := 10) F (c_10_remainderI (xl X) hP I A J hB q1 hk_q1 (hp_q1) (hq_q1) (10 : Int32) (o_1) (o_2)) ml_4_56 im_yX10_remainder se_yX10_remainder (by decide) (by decide) rfl (hp_q1) hk_q1 rfl dX4_printWhole_10 (Nat.le_of_ble_eq_true rfl) (Nat.le_refl 0) (Nat.le_refl 0) (hl_r (hB _ (by decide)) (hl_r (hp_q1) (hl_i hl_nil))) (hs_i (hs_r (hB _ (by decide)) hs_nil)) ?_
  rintro _ _ _ ⟨rfl, rfl, rfl⟩ _
  show WA X (mC P O I A J) pl 0 0 13 [(0, .ref 126), (1, .ref q1), (2, .int x2)] [.int (nI (valW (J (q1 + 1)) 6 % (10 : Int32).toNatClampNeg)), .int x2, .ref 127]
  refine a_iast F (hB _ (by decide)) rfl (o_3) dX4_printWhole_13 ?_
  refine a_aload_n F 1 dX4_printWhole_14 rfl rfl ?_
  refine a_bipush (v := 10) F dX4_printWhole_15 (by decide) ?_
  refine a_callV (b := q1) (As := [.int 10]) (st := []) (ci := 10) F (c_10_divideI (xl X) hP I (up1 A 127 (upd (A 127) x2.toNatClampNeg (nI (valW (J (q1 + 1)) 6 % (10 : Int32).toNatClampNeg)))) J hB q1 hk_q1 (hp_q1) (hq_q1) (10 : Int32) (o_4) (o_5)) ml_4_60 im_yX10_divide se_yX10_divide (by decide) (by decide) rfl (hp_q1) hk_q1 rfl dX4_printWhole_17 (by decide) (Nat.le_refl 0) (Nat.le_refl 0) (hl_r (hB _ (by decide)) (hl_r (hp_q1) (hl_i hl_nil))) hs_nil ?_
  rintro _ _ _ ⟨rfl, rfl, rfl⟩ _
  show WA X (mC P O I (up1 A 127 (upd (A 127) x2.toNatClampNeg (nI (valW (J (q1 + 1)) 6 % (10 : Int32).toNatClampNeg)))) (up1 J (q1 + 1) (putW (J (q1 + 1)) 6 (valW (J (q1 + 1)) 6 / (10 : Int32).toNatClampNeg)))) pl 0 0 20 [(0, .ref 126), (1, .ref q1), (2, .int x2)] []
  refine a_iinc (v := x2 + 1) F 2 dX4_printWhole_20 rfl rfl (by decide) rfl ?_
  refine a_iload_n F 0 dX4_printWhole_23 rfl rfl ?_
  refine a_bipush (v := 60) F dX4_printWhole_24 (by decide) ?_
  refine a_icmp_ge (tgt := 36) F dX4_printWhole_26 (by decide) (fun (c_1 : 60 ≤ (x2 + 1)) => ?_) (fun (c_1 : ¬ (60 ≤ (x2 + 1))) => ?_)
  · refine a_sub [1, 2, 0] rfl ?_
    exact e_6 c_1
  · refine a_aload_n F 2 dX4_printWhole_29 rfl rfl ?_
    refine a_callV (b := q1) (As := []) (st := []) (ci := 10) F (c_10_isZero (xl X) hP I (up1 A 127 (upd (A 127) x2.toNatClampNeg (nI (valW (J (q1 + 1)) 6 % (10 : Int32).toNatClampNeg)))) (up1 J (q1 + 1) (putW (J (q1 + 1)) 6 (valW (J (q1 + 1)) 6 / (10 : Int32).toNatClampNeg))) hB q1 hk_q1 (hp_q1) (hq_q1) (o_7 c_1)) ml_4_37 im_yX10_isZero se_yX10_isZero (by decide) (by decide) rfl (hp_q1) hk_q1 rfl dX4_printWhole_30 (by decide) (Nat.le_refl 0) (Nat.le_refl 0) (hl_i (hl_r (hB _ (by decide)) (hl_r (hp_q1) hl_nil))) hs_nil ?_
    rintro _ _ _ ⟨rfl, rfl, rfl⟩ _
    show WA X (mC P O I (up1 A 127 (upd (A 127) x2.toNatClampNeg (nI (valW (J (q1 + 1)) 6 % (10 : Int32).toNatClampNeg)))) (up1 J (q1 + 1) (putW (J (q1 + 1)) 6 (valW (J (q1 + 1)) 6 / (10 : Int32).toNatClampNeg)))) pl 0 0 33 [(2, .int (x2 + 1)), (0, .ref 126), (1, .ref q1)] [.int (if valW ((up1 J (q1 + 1) (putW (J (q1 + 1)) 6 (valW (J (q1 + 1)) 6 / (10 : Int32).toNatClampNeg))) (q1 + 1)) 6 = 0 then 1 else 0)]
    refine a_ite (fun (c_2 : valW ((up1 J (q1 + 1) (putW (J (q1 + 1)) 6 (valW (J (q1 + 1)) 6 / (10 : Int32).toNatClampNeg))) (q1 + 1)) 6 = 0) => ?_) (fun (c_2 : ¬ (valW ((up1 J (q1 + 1) (putW (J (q1 + 1)) 6 (valW (J (q1 + 1)) 6 / (10 : Int32).toNatClampNeg))) (q1 + 1)) 6 = 0)) => ?_)
    · refine a_if_eq (tgt := 2) F dX4_printWhole_33 (by decide) (fun (c_3 : (1 : Int32) = 0) => ?_) (fun (c_3 : ¬ ((1 : Int32) = 0)) => ?_)
      · exact absurd c_3 (by decide)
      · refine a_sub [1, 2, 0] rfl ?_
        exact e_8 c_1 c_2
    · refine a_if_eq (tgt := 2) F dX4_printWhole_33 (by decide) (fun (c_4 : (0 : Int32) = 0) => ?_) (fun (c_4 : ¬ ((0 : Int32) = 0)) => ?_)
      · refine a_sub [1, 2, 0] rfl ?_
        exact e_9 c_1 c_2
      · exact absurd c_4 (by decide)

theorem r_4_printWhole_36 {X : Ctx} (F : Fx X cX4_printWhole RX4 4 2 0 0) {P O : Nat → Nat → Option Nat} (hP : laP P) {I A : Nat → Nat → Int32} {J : Nat → Nat → Int64} {pl : List Nat} (hB : inB pl) {x2 : Int32} {q1 : Nat} (hk_q1 : kC q1 = 10) (hp_q1 : q1 ∈ pl) (hq_q1 : q1 + 1 ∈ pl)
    (e_1 : WA X (mC P O I A J) pl 0 0 40 [(0, .ref 126), (1, .ref q1), (2, .int x2), (3, .int (x2 - 1))] []) :
    WA X (mC P O I A J) pl 0 0 36 [(0, .ref 126), (1, .ref q1), (2, .int x2)] [] := by
  refine a_iload_n F 2 dX4_printWhole_36 rfl rfl ?_
  refine a_iconst (v := 1) F dX4_printWhole_37 (by decide) ?_
  refine a_isub F dX4_printWhole_38 ?_
  refine a_istore_n F dX4_printWhole_39 rfl (by decide) rfl ?_
  refine a_sub [1, 2, 3, 0] rfl ?_
  exact e_1

theorem r_4_printWhole_40 {X : Ctx} (F : Fx X cX4_printWhole RX4 4 2 0 0) {Φ : Option Value → HS → List Nat → Prop} (E : Ex X none 0 0 Φ) {P O : Nat → Nat → Option Nat} (hP : laP P) {I A : Nat → Nat → Int32} {J : Nat → Nat → Int64} {pl : List Nat} (hB : inB pl) {x2 x3 : Int32} {q1 : Nat} (hk_q1 : kC q1 = 10) (hp_q1 : q1 ∈ pl) (hq_q1 : q1 + 1 ∈ pl)
    (e_1 : (x3 < 0) → Φ none (mC P O I A J) pl)
    (o_2 : (¬ (x3 < 0)) → vp_in x3 60)
    (o_3 : (¬ (x3 < 0)) → szL (I 122 1))
    (e_4 : (¬ (x3 < 0)) → WA X (mC P O (up2 I 122 1 (I 122 1 + 1)) (up1 A 123 (upd (A 123) (I 122 1).toNatClampNeg ((48 + (A 127 x3.toNatClampNeg)) &&& 255))) J) pl 0 0 40 [(0, .ref 126), (1, .ref q1), (2, .int x2), (3, .int (x3 + (-1)))] []) :
    WA X (mC P O I A J) pl 0 0 40 [(0, .ref 126), (1, .ref q1), (2, .int x2), (3, .int x3)] [] := by
  refine a_iload_n F 3 dX4_printWhole_40 rfl rfl ?_
  refine a_if_lt (tgt := 66) F dX4_printWhole_41 (by decide) (fun (c_5 : x3 < 0) => ?_) (fun (c_5 : ¬ (x3 < 0)) => ?_)
  · exact a_vret F E dX4_printWhole_66 (Nat.le_refl 0) (Nat.le_refl 0) (e_1 c_5)
  · refine a_aload_n F 0 dX4_printWhole_44 rfl rfl ?_
    refine a_getr (b := 122) F fl_4_23 rfl (hB _ (by decide)) rfl ((hP 126 0 (by decide)).trans rfl) dX4_printWhole_45 ?_
    refine a_bipush (v := 48) F dX4_printWhole_48 (by decide) ?_
    refine a_aload_n F 0 dX4_printWhole_50 rfl rfl ?_
    refine a_getr (b := 127) F fl_4_16 rfl (hB _ (by decide)) rfl ((hP 126 2 (by decide)).trans rfl) dX4_printWhole_51 ?_
    refine a_iload_n F 3 dX4_printWhole_54 rfl rfl ?_
    refine a_iald F (hB _ (by decide)) rfl (o_2 c_5) dX4_printWhole_55 ?_
    refine a_iadd F dX4_printWhole_56 ?_
    refine a_callV (b := 122) (As := [.int (48 + (A 127 x3.toNatClampNeg))]) (st := []) (ci := 1) F (c_1_addI (xl X) hP I A J hB 122 rfl (hB _ (by decide)) (hB _ (by decide)) (48 + (A 127 x3.toNatClampNeg)) (o_3 c_5)) ml_4_52 im_yX1_add se_yX1_add (by decide) (by decide) rfl (hB _ (by decide)) rfl rfl dX4_printWhole_57 (by decide) (Nat.le_refl 0) (Nat.le_refl 0) (hl_r (hB _ (by decide)) (hl_r (hp_q1) (hl_i (hl_i hl_nil)))) hs_nil ?_
    rintro _ _ _ ⟨rfl, rfl, rfl⟩ _
    show WA X (mC P O (up2 I 122 1 (I 122 1 + 1)) (up1 A 123 (upd (A 123) (I 122 1).toNatClampNeg ((48 + (A 127 x3.toNatClampNeg)) &&& 255))) J) pl 0 0 60 [(0, .ref 126), (1, .ref q1), (2, .int x2), (3, .int x3)] []
    refine a_iinc (v := x3 + (-1)) F 3 dX4_printWhole_60 rfl rfl (by decide) rfl ?_
    refine a_goto (tgt := 40) F dX4_printWhole_63 (by decide) ?_
    refine a_sub [1, 2, 3, 0] rfl ?_
    exact e_4 c_5

set_option maxRecDepth 10000 in
theorem c_4_printWhole (l : Launch) {P O : Nat → Nat → Option Nat} (hP : laP P) (I A : Nat → Nat → Int32) (J : Nat → Nat → Int64) {pl : List Nat} (hB : inB pl) (q1 : Nat) (hk_q1 : kC q1 = 10) (hp_q1 : q1 ∈ pl) (hq_q1 : q1 + 1 ∈ pl) (v o : Nat) (hd : digW (J (q1 + 1)) 6) (hv : valW (J (q1 + 1)) 6 = v) (h61 : I 122 1 = nI o) (ho : o ≤ 200) : Con l 2 yX4_printWhole cX4_printWhole 4 none [.ref 126, .ref q1] (mC P O I A J) pl 0 0 (whC P O I A J pl q1 v o) := by
  refine Con.of (by decide) (Nat.le_of_ble_eq_true rfl) (fun X hX9 hn9 F E => ?_)
  have hvl : v < 10 ^ 56 := by rw [← hv]; exact Nat.lt_of_lt_of_le (vw_lt _ hd) (by decide +kernel)
  have h10 : (10 : Int32).toNatClampNeg = 10 := rfl
  have prt : ∀ (n : Nat) (A1 : Nat → Nat → Int32) (J1 : Nat → Nat → Int64), numD v n → n ≤ 56 → (∀ j, j < n → A1 127 j = nI (v / 10 ^ j % 10)) → (∀ p, p ≠ 127 → A1 p = A p) → (∀ p, p ≠ q1 + 1 → J1 p = J p) → digW (J1 (q1 + 1)) 6 → WA X (mC P O I A1 J1) pl 0 0 36 [(0, .ref 126), (1, .ref q1), (2, .int (nI n))] [] := by
    intro n A1 J1 hnd hn102 h60 hfr hJ hdJ
    refine r_4_printWhole_36 F hP hB hk_q1 hp_q1 hq_q1 ?_
    have a59 : A1 123 = A 123 := hfr 123 (by decide)
    have loop : ∀ k (I' A' : Nat → Nat → Int32), k ≤ n → I' 122 1 = nI (o + (n - k)) → (∀ p j, ¬ (p = 122 ∧ j = 1) → I' p j = I p j) → (∀ i, i < n - k → A' 123 (o + i) = nI (dcd v n i)) → (∀ j, j < o → A' 123 j = A 123 j) → (∀ p, p ≠ 123 → A' p = A1 p) → WA X (mC P O I' A' J1) pl 0 0 40 [(0, .ref 126), (1, .ref q1), (2, .int (nI n)), (3, .int (nI k + (-1)))] [] := by
      intro k
      induction k with
      | zero =>
        intro I' A' _ e61 eI e1 e2 e3
        have h0 : nI 0 + (-1) < 0 := by decide
        refine r_4_printWhole_40 F E hP hB hk_q1 hp_q1 hq_q1 (fun _ => ?_) (fun h => absurd h0 h) (fun h => absurd h0 h) (fun h => absurd h0 h)
        exact ⟨I', A', J1, n, rfl, rfl, rfl, eI, e61, hnd, hn102, e1, e2, fun p p1 p2 => (e3 p p1).trans (hfr p p2), hJ, hdJ⟩
      | succ k ih =>
        intro I' A' hk2 e61 eI e1 e2 e3
        rw [nI_m1]
        have h0 : ¬ nI k < 0 := nI_pos (by omega)
        refine r_4_printWhole_40 F E hP hB hk_q1 hp_q1 hq_q1 (fun h => absurd h h0) (fun _ => vp_in_nI (by omega) (by omega)) (fun _ => ⟨_, by omega, e61⟩) (fun _ => ?_)
        have ed : (48 + A' 127 (nI k).toNatClampNeg) &&& 255 = nI (dcd v n (n - (k + 1))) := by
          have hl := dcd_lt v n (n - (k + 1))
          have e4 : 48 + A' 127 (nI k).toNatClampNeg = nI (dcd v n (n - (k + 1))) := by
            rw [nI_clamp (by omega), e3 127 (by decide), h60 k (by omega), lit 48, nI_add]; unfold dcd; rw [show n - 1 - (n - (k + 1)) = k by omega]
          rw [e4, i_255, Nat.mod_eq_of_lt hl]
        rw [ed, e61, nI_clamp (by omega), nI_1]
        refine ih _ _ (by omega) (by rw [up2_s]; congr 1; omega) (fun p j hj => ?_) (fun i hi => ?_) (fun j hj => ?_) (fun p hp => by rw [up1_p hp]; exact e3 p hp)
        · by_cases c : p = 122
          · subst c; rw [up2_k (fun z => hj ⟨rfl, z⟩)]; exact eI _ _ hj
          · rw [up2_p c]; exact eI _ _ hj
        · rw [up1_s]
          rcases Nat.lt_or_ge i (n - (k + 1)) with z | z
          · rw [upd_out (by omega)]; exact e1 i z
          · obtain rfl : i = n - (k + 1) := by omega
            rw [upd_in]
        · rw [up1_s, upd_out (by omega)]; exact e2 j hj
    have := loop n I A1 (Nat.le_refl _) (by rw [h61]; congr 1; omega) (fun _ _ _ => rfl) (fun i hi => by omega) (fun j hj => by rw [a59]) (fun _ _ => rfl)
    rw [show nI n - 1 = nI n + (-1) by grind]; exact this
  have loop : ∀ f j (A1 : Nat → Nat → Int32) (J1 : Nat → Nat → Int64), j + f = 56 → (j = 0 ∨ 10 ^ j ≤ v) → digW (J1 (q1 + 1)) 6 → valW (J1 (q1 + 1)) 6 = v / 10 ^ j → (∀ i, i < j → A1 127 i = nI (v / 10 ^ i % 10)) → (∀ p, p ≠ 127 → A1 p = A p) → (∀ p, p ≠ q1 + 1 → J1 p = J p) → WA X (mC P O I A1 J1) pl 0 0 2 [(0, .ref 126), (1, .ref q1), (2, .int (nI j))] [] := by
    intro f
    induction f with
    | zero =>
      intro j A1 J1 hj h1
      exfalso
      obtain rfl : j = 56 := by omega
      rcases h1 with z | z <;> omega
    | succ f ih =>
      intro j A1 J1 hj h1 hd1 hv1 h60 hfr hJ
      have cj : (nI j).toNatClampNeg = j := nI_clamp (by omega)
      have ev : valW (J1 (q1 + 1)) 6 / (10 : Int32).toNatClampNeg = v / 10 ^ (j + 1) := by rw [h10, hv1, Nat.div_div_eq_div_mul, ← Nat.pow_succ]
      have er : valW (J1 (q1 + 1)) 6 % (10 : Int32).toNatClampNeg = v / 10 ^ j % 10 := by rw [h10, hv1]
      have elt : v / 10 ^ (j + 1) < 2 ^ (31 * 6) := Nat.lt_of_le_of_lt (Nat.div_le_self _ _) (by rw [← hv]; exact vw_lt _ hd)
      have rows : ∀ i, i < j + 1 → (up1 A1 127 (upd (A1 127) j (nI (v / 10 ^ j % 10)))) 127 i = nI (v / 10 ^ i % 10) := fun i hi => by
        rw [up1_s]
        rcases Nat.lt_or_ge i j with z | z
        · rw [upd_out (by omega)]; exact h60 i z
        · obtain rfl : i = j := by omega
          rw [upd_in]
      have eo : ∀ p, p ≠ 127 → (up1 A1 127 (upd (A1 127) j (nI (v / 10 ^ j % 10)))) p = A p := fun p p1 => by rw [up1_p p1]; exact hfr p p1
      have eJ : ∀ p, p ≠ q1 + 1 → (up1 J1 (q1 + 1) (putW (J1 (q1 + 1)) 6 (v / 10 ^ (j + 1)))) p = J p := fun p p1 => by rw [up1_p p1]; exact hJ p p1
      have dJ : digW ((up1 J1 (q1 + 1) (putW (J1 (q1 + 1)) 6 (v / 10 ^ (j + 1)))) (q1 + 1)) 6 := by rw [up1_s]; exact pw_dig
      have vJ : valW ((up1 J1 (q1 + 1) (putW (J1 (q1 + 1)) 6 (v / 10 ^ (j + 1)))) (q1 + 1)) 6 = v / 10 ^ (j + 1) := by rw [up1_s, pw_val 6 (Nat.le_refl _), Nat.mod_eq_of_lt elt]
      have n60 : ¬ (60 : Int32) ≤ nI j + 1 := fun z => by rw [nI_1] at z; have := (nI_gen 60 (by omega) (by omega)).mp z; omega
      refine r_4_printWhole_2 F hP hB hk_q1 hp_q1 hq_q1 hd1 (by decide) (vp_in_nI (by omega) (by omega)) hd1 (by decide) (fun z => absurd z n60) (fun _ => ?_) (fun _ c => ?_) (fun _ c => ?_)
      · rw [ev]; exact dJ
      · rw [ev, vJ] at c
        rw [ev, er, cj, nI_1]
        have hlt : v < 10 ^ (j + 1) := by
          rcases Nat.lt_or_ge v (10 ^ (j + 1)) with z | z
          · exact z
          · have := Nat.div_pos z (Nat.pow_pos (by decide)); omega
        exact prt (j + 1) _ _ ⟨by omega, hlt, by rcases h1 with z | z; left; omega; right; exact z⟩ (by omega) rows eo eJ dJ
      · rw [ev, vJ] at c
        rw [ev, er, cj, nI_1]
        have hge : 10 ^ (j + 1) ≤ v := by
          rcases Nat.lt_or_ge v (10 ^ (j + 1)) with z | z
          · exact absurd (Nat.div_eq_of_lt z) c
          · exact z
        exact ih (j + 1) _ _ (by omega) (Or.inr hge) dJ vJ rows eo eJ
  refine r_4_printWhole_0 F hP hB hk_q1 hp_q1 hq_q1 ?_
  exact loop 56 0 A J rfl (Or.inl rfl) hd (by rw [hv, Nat.pow_zero, Nat.div_one]) (fun i hi => by omega) (fun _ _ => rfl) (fun _ _ => rfl)
