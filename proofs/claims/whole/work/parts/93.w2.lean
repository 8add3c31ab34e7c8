theorem r_10_multiply_0 {X : Ctx} (F : Fx X cX10_multiply RX10 5 1 0 0) {P O : Nat → Nat → Option Nat} (hP : laP P) {I A : Nat → Nat → Int32} {J : Nat → Nat → Int64} {pl : List Nat} (hB : inB pl) {x1 : Int32} {p : Nat} (hk_p : kC p = 10) (hp_p : p ∈ pl) (hq_p : p + 1 ∈ pl)
    (e_1 : WA X (mC P O I A J) pl 0 0 5 [(0, .ref p), (1, .int x1), (2, .long 0), (4, .int 0)] []) :
    WA X (mC P O I A J) pl 0 0 0 [(0, .ref p), (1, .int x1)] [] := by
  refine a_lconst (v := 0) F dX10_multiply_0 (by decide) ?_
  refine a_lstore_n F dX10_multiply_1 rfl (by decide) rfl ?_
  refine a_iconst (v := 0) F dX10_multiply_2 (by decide) ?_
  refine a_istore F dX10_multiply_3 (by decide) rfl ?_
  refine a_sub [2, 3, 1, 0] rfl ?_
  exact e_1

theorem r_10_multiply_5 {X : Ctx} (F : Fx X cX10_multiply RX10 5 1 0 0) {Φ : Option Value → HS → List Nat → Prop} (E : Ex X none 0 0 Φ) {P O : Nat → Nat → Option Nat} (hP : laP P) {I A : Nat → Nat → Int32} {J : Nat → Nat → Int64} {pl : List Nat} (hB : inB pl) {x1 x4 : Int32} {y2 : Int64} {p : Nat} (hk_p : kC p = 10) (hp_p : p ∈ pl) (hq_p : p + 1 ∈ pl)
    (e_1 : (6 ≤ x4) → Φ none (mC P O I A J) pl)
    (o_2 : (¬ (6 ≤ x4)) → vp_in x4 6)
    (o_3 : (¬ (6 ≤ x4)) → vp_in x4 6)
    (e_4 : (¬ (6 ≤ x4)) → WA X (mC P O I A (up1 J (p + 1) (vp_updL (J (p + 1)) x4.toNatClampNeg ((y2 + ((J (p + 1) x4.toNatClampNeg) * ((x1 : Int32).toInt64))) &&& 2147483647)))) pl 0 0 5 [(0, .ref p), (1, .int x1), (2, .long ((((y2 + ((J (p + 1) x4.toNatClampNeg) * ((x1 : Int32).toInt64))) : Int64).toUInt64 >>> ((31 : Int32).toInt64.toUInt64 &&& Int64.toUInt64 63)).toInt64)), (4, .int (x4 + 1))] []) :
    WA X (mC P O I A J) pl 0 0 5 [(0, .ref p), (1, .int x1), (2, .long y2), (4, .int x4)] [] := by
  refine a_iload F 3 dX10_multiply_5 rfl ?_
  refine a_bipush (v := 6) F dX10_multiply_7 (by decide) ?_
  refine a_icmp_ge (tgt := 48) F dX10_multiply_9 (by decide) (fun (c_1 : 6 ≤ x4) => ?_) (fun (c_1 : ¬ (6 ≤ x4)) => ?_)
  · exact a_vret F E dX10_multiply_48 (Nat.le_refl 0) (Nat.le_refl 0) (e_1 c_1)
  · refine a_lload_n F 2 dX10_multiply_12 rfl rfl ?_
    refine a_aload_n F 0 dX10_multiply_13 rfl rfl ?_
    refine a_getr (b := (p + 1)) F fl_10_9 rfl (hp_p) hk_p (laP_wh hP hk_p) dX10_multiply_14 ?_
    refine a_iload F 3 dX10_multiply_17 rfl ?_
    refine a_lald F (hq_p) (k_wh hk_p).1 (show vp_in _ (nC (p + 1)) from (k_wh hk_p).2 ▸ o_2 c_1) dX10_multiply_19 ?_
    refine a_iload_n F 1 dX10_multiply_20 rfl rfl ?_
    refine a_i2l F dX10_multiply_21 ?_
    refine a_lmul F dX10_multiply_22 ?_
    refine a_ladd F dX10_multiply_23 ?_
    refine a_lstore_n F dX10_multiply_24 rfl (by decide) rfl ?_
    refine a_aload_n F 1 dX10_multiply_25 rfl rfl ?_
    refine a_getr (b := (p + 1)) F fl_10_9 rfl (hp_p) hk_p (laP_wh hP hk_p) dX10_multiply_26 ?_
    refine a_iload F 3 dX10_multiply_29 rfl ?_
    refine a_lload_n F 0 dX10_multiply_31 rfl rfl ?_
    refine a_ldc2 F kc_10_19 dX10_multiply_32 ?_
    refine a_land F dX10_multiply_35 ?_
    refine a_last F (hq_p) (k_wh hk_p).1 (show vp_in _ (nC (p + 1)) from (k_wh hk_p).2 ▸ o_3 c_1) dX10_multiply_36 ?_
    refine a_lload_n F 0 dX10_multiply_37 rfl rfl ?_
    refine a_bipush (v := 31) F dX10_multiply_38 (by decide) ?_
    refine a_lushr F dX10_multiply_40 ?_
    refine a_lstore_n F dX10_multiply_41 rfl (by decide) rfl ?_
    refine a_iinc (v := x4 + 1) F 3 dX10_multiply_42 rfl rfl (by decide) rfl ?_
    refine a_goto (tgt := 5) F dX10_multiply_45 (by decide) ?_
    refine a_sub [2, 3, 1, 0] rfl ?_
    exact e_4 c_1

set_option maxRecDepth 10000 in
theorem c_10_multiply (l : Launch) {P O : Nat → Nat → Option Nat} (hP : laP P) (I A : Nat → Nat → Int32) (J : Nat → Nat → Int64) {pl : List Nat} (hB : inB pl) (p : Nat) (hk_p : kC p = 10) (hp_p : p ∈ pl) (hq_p : p + 1 ∈ pl) (c : Nat) (hd : digW (J (p + 1)) 6) (hc0 : 0 < c) (hc : c ≤ 64) : Con l 1 yX10_multiply cX10_multiply 5 none [.ref p, .int (nI c)] (mC P O I A J) pl 0 0 (PC none P O I A (up1 J (p + 1) (putW (J (p + 1)) 6 (valW (J (p + 1)) 6 * c))) pl) := by
  refine Con.of (by decide) (Nat.le_of_ble_eq_true rfl) (fun X hX9 hn9 F E => ?_)
  refine r_10_multiply_0 F hP hB hk_p hp_p hq_p ?_
  generalize hv : valW (J (p + 1)) 6 = v at *
  have dg : ∀ k, k < 6 → J (p + 1) k = lN (v / 2 ^ (31 * k) % 2 ^ 31) := fun k hk => by rw [← hv]; exact vw_dg _ hd k hk
  have loop : ∀ f k, k + f = 6 → WA X (mC P O I A (up1 J (p + 1) (putW (J (p + 1)) k (v * c)))) pl 0 0 5 [(0, .ref p), (1, .int (nI c)), (2, .long (lN ((v % 2 ^ (31 * k)) * c / 2 ^ (31 * k)))), (4, .int (nI k))] [] := by
    intro f
    induction f with
    | zero =>
      intro k hk2
      obtain rfl : k = 6 := by omega
      have h : (6 : Int32) ≤ nI 6 := by decide
      exact r_10_multiply_5 F E hP hB hk_p hp_p hq_p (fun _ => ⟨rfl, rfl, rfl⟩) (fun z => absurd h z) (fun z => absurd h z) (fun z => absurd h z)
    | succ f ih =>
      intro k hk2
      have h : ¬ (6 : Int32) ≤ nI k := fun z => by have := (nI_gen 6 (by omega) (by omega)).mp z; omega
      refine r_10_multiply_5 F E hP hB hk_p hp_p hq_p (fun z => absurd z h) (fun _ => vp_in_nI (by omega) (by omega)) (fun _ => vp_in_nI (by omega) (by omega)) (fun _ => ?_)
      have hpos : 0 < 2 ^ (31 * k) := Nat.two_pow_pos _
      have hdlt : v / 2 ^ (31 * k) % 2 ^ 31 < 2 ^ 31 := Nat.mod_lt _ (by decide)
      have hcar := carry_lt (v := v) (M := 2 ^ (31 * k)) hpos hc0
      have hmul : v / 2 ^ (31 * k) % 2 ^ 31 * c ≤ 2 ^ 31 * 64 := Nat.mul_le_mul (Nat.le_of_lt hdlt) hc
      have er : putW (J (p + 1)) k (v * c) k = lN (v / 2 ^ (31 * k) % 2 ^ 31) := by rw [pw_out (Nat.le_refl _)]; exact dg k (by omega)
      rw [nI_clamp (show k < 2 ^ 31 by omega), up1_s, er, nI_l (by omega), lN_mul, lN_add, ← cs_1 hpos, ← p31, l_full31 (by rw [p31, cs_1 hpos]; omega), l_us31 (by rw [p31, cs_1 hpos]; omega), up1_up1, nI_1]
      rw [p31, cs_2 hpos, pwH_up, Nat.div_div_eq_div_mul, ← p31]
      exact ih (k + 1) (by omega)
  have := loop 6 0 (by omega)
  rw [show putW (J (p + 1)) 0 (v * c) = J (p + 1) from pwH_e _ _ _, up1_id, show v % 2 ^ (31 * 0) * c / 2 ^ (31 * 0) = 0 by simp [Nat.mod_one]] at this
  exact this

theorem r_10_divide_0 {X : Ctx} (F : Fx X cX10_divide RX10 7 1 0 0) {Φ : Option Value → HS → List Nat → Prop} (E : Ex X none 0 0 Φ) {P O : Nat → Nat → Option Nat} (hP : laP P) {I A : Nat → Nat → Int32} {J : Nat → Nat → Int64} {pl : List Nat} (hB : inB pl) {x1 : Int32} {p : Nat} (hk_p : kC p = 10) (hp_p : p ∈ pl) (hq_p : p + 1 ∈ pl)
    (e_1 : (1 ≤ x1) → WA X (mC P O I A J) pl 0 0 11 [(0, .ref p), (1, .int x1), (2, .long 0), (4, .int 5)] [])
    (e_2 : (¬ (1 ≤ x1)) → Φ none (mC P O I A J) pl) :
    WA X (mC P O I A J) pl 0 0 0 [(0, .ref p), (1, .int x1)] [] := by
  refine a_iload_n F 1 dX10_divide_0 rfl rfl ?_
  refine a_iconst (v := 1) F dX10_divide_1 (by decide) ?_
  refine a_icmp_ge (tgt := 6) F dX10_divide_2 (by decide) (fun (c_1 : 1 ≤ x1) => ?_) (fun (c_1 : ¬ (1 ≤ x1)) => ?_)
  · refine a_lconst (v := 0) F dX10_divide_6 (by decide) ?_
    refine a_lstore_n F dX10_divide_7 rfl (by decide) rfl ?_
    refine a_iconst (v := 5) F dX10_divide_8 (by decide) ?_
    refine a_istore F dX10_divide_9 (by decide) rfl ?_
    refine a_sub [2, 3, 1, 0] rfl ?_
    exact e_1 c_1
  · exact a_vret F E dX10_divide_5 (Nat.le_refl 0) (Nat.le_refl 0) (e_2 c_1)

theorem r_10_divide_11 {X : Ctx} (F : Fx X cX10_divide RX10 7 1 0 0) {Φ : Option Value → HS → List Nat → Prop} (E : Ex X none 0 0 Φ) {P O : Nat → Nat → Option Nat} (hP : laP P) {I A : Nat → Nat → Int32} {J : Nat → Nat → Int64} {pl : List Nat} (hB : inB pl) {x1 x4 : Int32} {y2 : Int64} {p : Nat} (hk_p : kC p = 10) (hp_p : p ∈ pl) (hq_p : p + 1 ∈ pl)
    (e_1 : (x4 < 0) → Φ none (mC P O I A J) pl)
    (o_2 : (¬ (x4 < 0)) → vp_in x4 6)
    (o_3 : (¬ (x4 < 0)) → ¬ ((x1 : Int32).toInt64) = 0)
    (o_4 : (¬ (x4 < 0)) → vp_in x4 6)
    (o_5 : (¬ (x4 < 0)) → ¬ ((x1 : Int32).toInt64) = 0)
    (e_6 : (¬ (x4 < 0)) → WA X (mC P O I A (up1 J (p + 1) (vp_updL (J (p + 1)) x4.toNatClampNeg (((y2 <<< ((31 : Int32).toInt64 &&& 63)) ||| (J (p + 1) x4.toNatClampNeg)) / ((x1 : Int32).toInt64))))) pl 0 0 11 [(0, .ref p), (1, .int x1), (2, .long (((y2 <<< ((31 : Int32).toInt64 &&& 63)) ||| (J (p + 1) x4.toNatClampNeg)) - ((y2 <<< ((31 : Int32).toInt64 &&& 63)) ||| (J (p + 1) x4.toNatClampNeg)) / ((x1 : Int32).toInt64) * ((x1 : Int32).toInt64))), (4, .int (x4 + (-1)))] []) :
    WA X (mC P O I A J) pl 0 0 11 [(0, .ref p), (1, .int x1), (2, .long y2), (4, .int x4)] [] := by
  refine a_iload F 3 dX10_divide_11 rfl ?_
  refine a_if_lt (tgt := 54) F dX10_divide_13 (by decide) (fun (c_2 : x4 < 0) => ?_) (fun (c_2 : ¬ (x4 < 0)) => ?_)
  · exact a_vret F E dX10_divide_54 (Nat.le_refl 0) (Nat.le_refl 0) (e_1 c_2)
  · refine a_lload_n F 2 dX10_divide_16 rfl rfl ?_
    refine a_bipush (v := 31) F dX10_divide_17 (by decide) ?_
    refine a_lshl F dX10_divide_19 ?_
    refine a_aload_n F 0 dX10_divide_20 rfl rfl ?_
    refine a_getr (b := (p + 1)) F fl_10_9 rfl (hp_p) hk_p (laP_wh hP hk_p) dX10_divide_21 ?_
    refine a_iload F 3 dX10_divide_24 rfl ?_
    refine a_lald F (hq_p) (k_wh hk_p).1 (show vp_in _ (nC (p + 1)) from (k_wh hk_p).2 ▸ o_2 c_2) dX10_divide_26 ?_
    refine a_lor F dX10_divide_27 ?_
    refine a_lstore F dX10_divide_28 (by decide) rfl ?_
    refine a_aload_n F 1 dX10_divide_30 rfl rfl ?_
    refine a_getr (b := (p + 1)) F fl_10_9 rfl (hp_p) hk_p (laP_wh hP hk_p) dX10_divide_31 ?_
    refine a_iload F 4 dX10_divide_34 rfl ?_
    refine a_lload F 0 dX10_divide_36 rfl ?_
    refine a_iload_n F 2 dX10_divide_38 rfl rfl ?_
    refine a_i2l F dX10_divide_39 ?_
    refine a_ldiv F dX10_divide_40 (o_3 c_2) ?_
    refine a_last F (hq_p) (k_wh hk_p).1 (show vp_in _ (nC (p + 1)) from (k_wh hk_p).2 ▸ o_4 c_2) dX10_divide_41 ?_
    refine a_lload F 0 dX10_divide_42 rfl ?_
    refine a_iload_n F 2 dX10_divide_44 rfl rfl ?_
    refine a_i2l F dX10_divide_45 ?_
    refine a_lrem F dX10_divide_46 (o_5 c_2) ?_
    refine a_lstore_n F dX10_divide_47 rfl (by decide) rfl ?_
    refine a_iinc (v := x4 + (-1)) F 4 dX10_divide_48 rfl rfl (by decide) rfl ?_
    refine a_goto (tgt := 11) F dX10_divide_51 (by decide) ?_
    refine a_sub [3, 4, 1, 0] rfl ?_
    exact e_6 c_2

set_option maxRecDepth 10000 in
theorem c_10_divide (l : Launch) {P O : Nat → Nat → Option Nat} (hP : laP P) (I A : Nat → Nat → Int32) (J : Nat → Nat → Int64) {pl : List Nat} (hB : inB pl) (p : Nat) (hk_p : kC p = 10) (hp_p : p ∈ pl) (hq_p : p + 1 ∈ pl) (c : Nat) (hd : digW (J (p + 1)) 6) (hc0 : 0 < c) (hc : c ≤ 64) : Con l 1 yX10_divide cX10_divide 7 none [.ref p, .int (nI c)] (mC P O I A J) pl 0 0 (PC none P O I A (up1 J (p + 1) (putW (J (p + 1)) 6 (valW (J (p + 1)) 6 / c))) pl) := by
  refine Con.of (by decide) (Nat.le_of_ble_eq_true rfl) (fun X hX9 hn9 F E => ?_)
  refine r_10_divide_0 F E hP hB hk_p hp_p hq_p (fun _ => ?_) (fun z => absurd ((nI_gen 1 (by omega) (by omega)).mpr hc0) z)
  have hlt := vw_lt _ hd
  generalize hv : valW (J (p + 1)) 6 = v at *
  have dg : ∀ k, k < 6 → J (p + 1) k = lN (v / 2 ^ (31 * k) % 2 ^ 31) := fun k hk => by rw [← hv]; exact vw_dg _ hd k hk
  have c64 : ¬ ((nI c : Int32).toInt64) = 0 := by rw [nI_l (by omega)]; intro z; have := (pk_lEQ (a := c) (b := 0) (by omega) (by decide)).mp z; omega
  have loop : ∀ k, k ≤ 6 → WA X (mC P O I A (up1 J (p + 1) (pwH (J (p + 1)) k 6 (v / c)))) pl 0 0 11 [(0, .ref p), (1, .int (nI c)), (2, .long (lN (v / 2 ^ (31 * k) % c))), (4, .int (nI k + (-1)))] [] := by
    intro k
    induction k with
    | zero =>
      intro _
      have h0 : nI 0 + (-1) < 0 := by decide
      exact r_10_divide_11 F E hP hB hk_p hp_p hq_p (fun _ => ⟨rfl, rfl, rfl⟩) (fun h => absurd h0 h) (fun h => absurd h0 h) (fun h => absurd h0 h) (fun h => absurd h0 h) (fun h => absurd h0 h)
    | succ k ih =>
      intro hk2
      rw [nI_m1]
      have h0 : ¬ nI k < 0 := nI_pos (by omega)
      refine r_10_divide_11 F E hP hB hk_p hp_p hq_p (fun h => absurd h h0) (fun _ => vp_in_nI (by omega) (by omega)) (fun _ => c64) (fun _ => vp_in_nI (by omega) (by omega)) (fun _ => c64) (fun _ => ?_)
      have hpos : 0 < 2 ^ (31 * k) := Nat.two_pow_pos _
      have hdlt : v / 2 ^ (31 * k) % 2 ^ 31 < 2 ^ 31 := Nat.mod_lt _ (by decide)
      have hr : v / 2 ^ (31 * (k + 1)) % c < c := Nat.mod_lt _ hc0
      have hmul : v / 2 ^ (31 * (k + 1)) % c * 2 ^ 31 ≤ 64 * 2 ^ 31 := Nat.mul_le_mul_right _ (by omega)
      have ov := ov_1 (v := v) (c := c) (M := 2 ^ (31 * k)) (B := 2 ^ 31) hc0 (by decide)
      rw [← p31] at ov
      have er : pwH (J (p + 1)) (k + 1) 6 (v / c) k = lN (v / 2 ^ (31 * k) % 2 ^ 31) := by unfold pwH; rw [if_neg (by omega)]; exact dg k (by omega)
      rw [nI_clamp (show k < 2 ^ 31 by omega), up1_s, er, nI_l (by omega), l_shl31, g_or (k := 31) rfl hdlt (by omega), pk_lRem (by omega) hc0 (by omega), ov.2, pk_lDiv (by omega) hc0 (by omega), up1_up1, ← ov.1, pwH_dn _ _ _ _ (by omega)]
      exact ih (by omega)
  have := loop 6 (Nat.le_refl _)
  rw [show pwH (J (p + 1)) 6 6 (v / c) = J (p + 1) from pwH_e _ _ _, up1_id, Nat.div_eq_of_lt hlt, Nat.zero_mod] at this
  exact this

theorem r_10_remainder_0 {X : Ctx} (F : Fx X cX10_remainder RX10 5 1 0 0) {Φ : Option Value → HS → List Nat → Prop} (E : Ex X (some .int) 0 0 Φ) {P O : Nat → Nat → Option Nat} (hP : laP P) {I A : Nat → Nat → Int32} {J : Nat → Nat → Int64} {pl : List Nat} (hB : inB pl) {x1 : Int32} {p : Nat} (hk_p : kC p = 10) (hp_p : p ∈ pl) (hq_p : p + 1 ∈ pl)
    (e_1 : (1 ≤ x1) → WA X (mC P O I A J) pl 0 0 12 [(0, .ref p), (1, .int x1), (2, .long 0), (4, .int 5)] [])
    (e_2 : (¬ (1 ≤ x1)) → Φ (some (.int 0)) (mC P O I A J) pl) :
    WA X (mC P O I A J) pl 0 0 0 [(0, .ref p), (1, .int x1)] [] := by
  refine a_iload_n F 1 dX10_remainder_0 rfl rfl ?_
  refine a_iconst (v := 1) F dX10_remainder_1 (by decide) ?_
  refine a_icmp_ge (tgt := 7) F dX10_remainder_2 (by decide) (fun (c_1 : 1 ≤ x1) => ?_) (fun (c_1 : ¬ (1 ≤ x1)) => ?_)
  · refine a_lconst (v := 0) F dX10_remainder_7 (by decide) ?_
    refine a_lstore_n F dX10_remainder_8 rfl (by decide) rfl ?_
    refine a_iconst (v := 5) F dX10_remainder_9 (by decide) ?_
    refine a_istore F dX10_remainder_10 (by decide) rfl ?_
    refine a_sub [2, 3, 1, 0] rfl ?_
    exact e_1 c_1
  · refine a_iconst (v := 0) F dX10_remainder_5 (by decide) ?_
    exact a_iret F E dX10_remainder_6 (Nat.le_refl 0) (Nat.le_refl 0) (e_2 c_1)

theorem r_10_remainder_12 {X : Ctx} (F : Fx X cX10_remainder RX10 5 1 0 0) {Φ : Option Value → HS → List Nat → Prop} (E : Ex X (some .int) 0 0 Φ) {P O : Nat → Nat → Option Nat} (hP : laP P) {I A : Nat → Nat → Int32} {J : Nat → Nat → Int64} {pl : List Nat} (hB : inB pl) {x1 x4 : Int32} {y2 : Int64} {p : Nat} (hk_p : kC p = 10) (hp_p : p ∈ pl) (hq_p : p + 1 ∈ pl)
    (e_1 : (x4 < 0) → Φ (some (.int ((y2 : Int64).toInt32))) (mC P O I A J) pl)
    (o_2 : (¬ (x4 < 0)) → vp_in x4 6)
    (o_3 : (¬ (x4 < 0)) → ¬ ((x1 : Int32).toInt64) = 0)
    (e_4 : (¬ (x4 < 0)) → WA X (mC P O I A J) pl 0 0 12 [(0, .ref p), (1, .int x1), (2, .long (((y2 <<< ((31 : Int32).toInt64 &&& 63)) ||| (J (p + 1) x4.toNatClampNeg)) - ((y2 <<< ((31 : Int32).toInt64 &&& 63)) ||| (J (p + 1) x4.toNatClampNeg)) / ((x1 : Int32).toInt64) * ((x1 : Int32).toInt64))), (4, .int (x4 + (-1)))] []) :
    WA X (mC P O I A J) pl 0 0 12 [(0, .ref p), (1, .int x1), (2, .long y2), (4, .int x4)] [] := by
  refine a_iload F 3 dX10_remainder_12 rfl ?_
  refine a_if_lt (tgt := 39) F dX10_remainder_14 (by decide) (fun (c_2 : x4 < 0) => ?_) (fun (c_2 : ¬ (x4 < 0)) => ?_)
  · refine a_lload_n F 2 dX10_remainder_39 rfl rfl ?_
    refine a_l2i F dX10_remainder_40 ?_
    exact a_iret F E dX10_remainder_41 (Nat.le_refl 0) (Nat.le_refl 0) (e_1 c_2)
  · refine a_lload_n F 2 dX10_remainder_17 rfl rfl ?_
    refine a_bipush (v := 31) F dX10_remainder_18 (by decide) ?_
    refine a_lshl F dX10_remainder_20 ?_
    refine a_aload_n F 0 dX10_remainder_21 rfl rfl ?_
    refine a_getr (b := (p + 1)) F fl_10_9 rfl (hp_p) hk_p (laP_wh hP hk_p) dX10_remainder_22 ?_
    refine a_iload F 3 dX10_remainder_25 rfl ?_
    refine a_lald F (hq_p) (k_wh hk_p).1 (show vp_in _ (nC (p + 1)) from (k_wh hk_p).2 ▸ o_2 c_2) dX10_remainder_27 ?_
    refine a_lor F dX10_remainder_28 ?_
    refine a_iload_n F 1 dX10_remainder_29 rfl rfl ?_
    refine a_i2l F dX10_remainder_30 ?_
    refine a_lrem F dX10_remainder_31 (o_3 c_2) ?_
    refine a_lstore_n F dX10_remainder_32 rfl (by decide) rfl ?_
    refine a_iinc (v := x4 + (-1)) F 3 dX10_remainder_33 rfl rfl (by decide) rfl ?_
    refine a_goto (tgt := 12) F dX10_remainder_36 (by decide) ?_
    refine a_sub [2, 3, 1, 0] rfl ?_
    exact e_4 c_2

set_option maxRecDepth 10000 in
theorem c_10_remainder (l : Launch) {P O : Nat → Nat → Option Nat} (hP : laP P) (I A : Nat → Nat → Int32) (J : Nat → Nat → Int64) {pl : List Nat} (hB : inB pl) (p : Nat) (hk_p : kC p = 10) (hp_p : p ∈ pl) (hq_p : p + 1 ∈ pl) (c : Nat) (hd : digW (J (p + 1)) 6) (hc0 : 0 < c) (hc : c ≤ 64) : Con l 1 yX10_remainder cX10_remainder 5 (some .int) [.ref p, .int (nI c)] (mC P O I A J) pl 0 0 (PC (some (.int (nI (valW (J (p + 1)) 6 % c)))) P O I A J pl) := by
  refine Con.of (by decide) (Nat.le_of_ble_eq_true rfl) (fun X hX9 hn9 F E => ?_)
  refine r_10_remainder_0 F E hP hB hk_p hp_p hq_p (fun _ => ?_) (fun z => absurd ((nI_gen 1 (by omega) (by omega)).mpr hc0) z)
  have hlt := vw_lt _ hd
  generalize hv : valW (J (p + 1)) 6 = v at *
  have dg : ∀ k, k < 6 → J (p + 1) k = lN (v / 2 ^ (31 * k) % 2 ^ 31) := fun k hk => by rw [← hv]; exact vw_dg _ hd k hk
  have c64 : ¬ ((nI c : Int32).toInt64) = 0 := by rw [nI_l (by omega)]; intro z; have := (pk_lEQ (a := c) (b := 0) (by omega) (by decide)).mp z; omega
  have loop : ∀ k, k ≤ 6 → WA X (mC P O I A J) pl 0 0 12 [(0, .ref p), (1, .int (nI c)), (2, .long (lN (v / 2 ^ (31 * k) % c))), (4, .int (nI k + (-1)))] [] := by
    intro k
    induction k with
    | zero =>
      intro _
      have h0 : nI 0 + (-1) < 0 := by decide
      refine r_10_remainder_12 F E hP hB hk_p hp_p hq_p (fun _ => ?_) (fun h => absurd h0 h) (fun h => absurd h0 h) (fun h => absurd h0 h)
      rw [lN_i, Nat.mul_zero, Nat.pow_zero, Nat.div_one]
      exact ⟨rfl, rfl, rfl⟩
    | succ k ih =>
      intro hk2
      rw [nI_m1]
      have h0 : ¬ nI k < 0 := nI_pos (by omega)
      refine r_10_remainder_12 F E hP hB hk_p hp_p hq_p (fun h => absurd h h0) (fun _ => vp_in_nI (by omega) (by omega)) (fun _ => c64) (fun _ => ?_)
      have hdlt : v / 2 ^ (31 * k) % 2 ^ 31 < 2 ^ 31 := Nat.mod_lt _ (by decide)
      have hr : v / 2 ^ (31 * (k + 1)) % c < c := Nat.mod_lt _ hc0
      have hmul : v / 2 ^ (31 * (k + 1)) % c * 2 ^ 31 ≤ 64 * 2 ^ 31 := Nat.mul_le_mul_right _ (by omega)
      have ov := ov_1 (v := v) (c := c) (M := 2 ^ (31 * k)) (B := 2 ^ 31) hc0 (by decide)
      rw [← p31] at ov
      rw [nI_clamp (show k < 2 ^ 31 by omega), dg k (by omega), nI_l (by omega), l_shl31, g_or (k := 31) rfl hdlt (by omega), pk_lRem (by omega) hc0 (by omega), ov.2]
      exact ih (by omega)
  have := loop 6 (Nat.le_refl _)
  rw [Nat.div_eq_of_lt hlt, Nat.zero_mod] at this
  exact this

theorem vw_0 {r : Nat → Int64} : ∀ n, (∀ k, k < n → r k = 0) → valW r n = 0
  | 0, _ => rfl
  | n + 1, h => by simp only [valW]; rw [vw_0 n (fun k hk => h k (by omega)), h n (by omega), show (0 : Int64).toNatClampNeg = 0 from rfl, Nat.zero_mul]
theorem vw_z {r : Nat → Int64} {n : Nat} (hd : digW r n) (h : valW r n = 0) {k : Nat} (hk : k < n) : r k = 0 := by rw [vw_dg n hd k hk, h, Nat.zero_div, Nat.zero_mod]; rfl
theorem vw_1 {r : Nat → Int64} {n : Nat} (h0 : r 0 = 1) (hk : ∀ k, 1 ≤ k → k < n → r k = 0) (hn : 1 ≤ n) : valW r n = 1 := by
  induction n with
  | zero => omega
  | succ n ih =>
    rcases Nat.eq_zero_or_pos n with z | z
    · subst z; simp only [valW]; rw [h0]; rfl
    · simp only [valW]; rw [ih (fun k a b => hk k a (by omega)) z, hk n z (by omega), show (0 : Int64).toNatClampNeg = 0 from rfl, Nat.zero_mul]

theorem r_10_isZero_0 {X : Ctx} (F : Fx X cX10_isZero RX10 2 1 0 0) {P O : Nat → Nat → Option Nat} (hP : laP P) {I A : Nat → Nat → Int32} {J : Nat → Nat → Int64} {pl : List Nat} (hB : inB pl) {p : Nat} (hk_p : kC p = 10) (hp_p : p ∈ pl) (hq_p : p + 1 ∈ pl)
    (e_1 : WA X (mC P O I A J) pl 0 0 2 [(0, .ref p), (1, .int 0)] []) :
    WA X (mC P O I A J) pl 0 0 0 [(0, .ref p)] [] := by
  refine a_iconst (v := 0) F dX10_isZero_0 (by decide) ?_
  refine a_istore_n F dX10_isZero_1 rfl (by decide) rfl ?_
  refine a_sub [1, 0] rfl ?_
  exact e_1

theorem r_10_isZero_2 {X : Ctx} (F : Fx X cX10_isZero RX10 2 1 0 0) {Φ : Option Value → HS → List Nat → Prop} (E : Ex X (some .boolean) 0 0 Φ) {P O : Nat → Nat → Option Nat} (hP : laP P) {I A : Nat → Nat → Int32} {J : Nat → Nat → Int64} {pl : List Nat} (hB : inB pl) {x1 : Int32} {p : Nat} (hk_p : kC p = 10) (hp_p : p ∈ pl) (hq_p : p + 1 ∈ pl)
    (e_1 : (6 ≤ x1) → Φ (some (.int 1)) (mC P O I A J) pl)
    (o_2 : (¬ (6 ≤ x1)) → vp_in x1 6)
    (e_3 : (¬ (6 ≤ x1)) → ((lg_cmp (J (p + 1) x1.toNatClampNeg) 0) = 0) → WA X (mC P O I A J) pl 0 0 2 [(0, .ref p), (1, .int (x1 + 1))] [])
    (e_4 : (¬ (6 ≤ x1)) → (¬ ((lg_cmp (J (p + 1) x1.toNatClampNeg) 0) = 0)) → Φ (some (.int 0)) (mC P O I A J) pl) :
    WA X (mC P O I A J) pl 0 0 2 [(0, .ref p), (1, .int x1)] [] := by
  refine a_iload_n F 1 dX10_isZero_2 rfl rfl ?_
  refine a_bipush (v := 6) F dX10_isZero_3 (by decide) ?_
  refine a_icmp_ge (tgt := 27) F dX10_isZero_5 (by decide) (fun (c_1 : 6 ≤ x1) => ?_) (fun (c_1 : ¬ (6 ≤ x1)) => ?_)
  · refine a_iconst (v := 1) F dX10_isZero_27 (by decide) ?_
    exact a_zret F E (by decide) dX10_isZero_28 (Nat.le_refl 0) (Nat.le_refl 0) (e_1 c_1)
  · refine a_aload_n F 0 dX10_isZero_8 rfl rfl ?_
    refine a_getr (b := (p + 1)) F fl_10_9 rfl (hp_p) hk_p (laP_wh hP hk_p) dX10_isZero_9 ?_
    refine a_iload_n F 1 dX10_isZero_12 rfl rfl ?_
    refine a_lald F (hq_p) (k_wh hk_p).1 (show vp_in _ (nC (p + 1)) from (k_wh hk_p).2 ▸ o_2 c_1) dX10_isZero_13 ?_
    refine a_lconst (v := 0) F dX10_isZero_14 (by decide) ?_
    refine a_lcmp F dX10_isZero_15 ?_
    refine a_if_eq (tgt := 21) F dX10_isZero_16 (by decide) (fun (c_2 : (lg_cmp (J (p + 1) x1.toNatClampNeg) 0) = 0) => ?_) (fun (c_2 : ¬ ((lg_cmp (J (p + 1) x1.toNatClampNeg) 0) = 0)) => ?_)
    · refine a_iinc (v := x1 + 1) F 1 dX10_isZero_21 rfl rfl (by decide) rfl ?_
      refine a_goto (tgt := 2) F dX10_isZero_24 (by decide) ?_
      refine a_sub [1, 0] rfl ?_
      exact e_3 c_1 c_2
    · refine a_iconst (v := 0) F dX10_isZero_19 (by decide) ?_
      exact a_zret F E (by decide) dX10_isZero_20 (Nat.le_refl 0) (Nat.le_refl 0) (e_4 c_1 c_2)

set_option maxRecDepth 10000 in
theorem c_10_isZero (l : Launch) {P O : Nat → Nat → Option Nat} (hP : laP P) (I A : Nat → Nat → Int32) (J : Nat → Nat → Int64) {pl : List Nat} (hB : inB pl) (p : Nat) (hk_p : kC p = 10) (hp_p : p ∈ pl) (hq_p : p + 1 ∈ pl) (hd : digW (J (p + 1)) 6) : Con l 1 yX10_isZero cX10_isZero 2 (some .boolean) [.ref p] (mC P O I A J) pl 0 0 (PC (some (.int (if valW (J (p + 1)) 6 = 0 then 1 else 0))) P O I A J pl) := by
  refine Con.of (by decide) (Nat.le_of_ble_eq_true rfl) (fun X hX9 hn9 F E => ?_)
  have loop : ∀ f k, k + f = 6 → (∀ j, j < k → J (p + 1) j = 0) → WA X (mC P O I A J) pl 0 0 2 [(0, .ref p), (1, .int (nI k))] [] := by
    intro f
    induction f with
    | zero =>
      intro k hk2 hz
      obtain rfl : k = 6 := by omega
      have h : (6 : Int32) ≤ nI 6 := by decide
      refine r_10_isZero_2 F E hP hB hk_p hp_p hq_p (fun _ => ?_) (fun z => absurd h z) (fun z => absurd h z) (fun z => absurd h z)
      rw [if_pos (vw_0 _ hz)]; exact ⟨rfl, rfl, rfl⟩
    | succ f ih =>
      intro k hk2 hz
      have h : ¬ (6 : Int32) ≤ nI k := fun z => by have := (nI_gen 6 (by omega) (by omega)).mp z; omega
      refine r_10_isZero_2 F E hP hB hk_p hp_p hq_p (fun z => absurd z h) (fun _ => vp_in_nI (by omega) (by omega)) (fun _ c => ?_) (fun _ c => ?_) <;> rw [nI_clamp (by omega), lg_cmp_eq] at c
      · rw [nI_1]
        refine ih (k + 1) (by omega) (fun j hj => ?_)
        rcases Nat.lt_or_ge j k with z | z
        · exact hz j z
        · obtain rfl : j = k := by omega
          exact c
      · rw [if_neg (fun z => c (vw_z hd z (by omega)))]; exact ⟨rfl, rfl, rfl⟩
  exact r_10_isZero_0 F hP hB hk_p hp_p hq_p (loop 6 0 rfl (fun j hj => by omega))

theorem r_10_isOne_0 {X : Ctx} (F : Fx X cX10_isOne RX10 2 1 0 0) {P O : Nat → Nat → Option Nat} (hP : laP P) {I A : Nat → Nat → Int32} {J : Nat → Nat → Int64} {pl : List Nat} (hB : inB pl) {p : Nat} (hk_p : kC p = 10) (hp_p : p ∈ pl) (hq_p : p + 1 ∈ pl)
    (e_1 : WA X (mC P O I A J) pl 0 0 2 [(0, .ref p), (1, .int 1)] []) :
    WA X (mC P O I A J) pl 0 0 0 [(0, .ref p)] [] := by
  refine a_iconst (v := 1) F dX10_isOne_0 (by decide) ?_
  refine a_istore_n F dX10_isOne_1 rfl (by decide) rfl ?_
  refine a_sub [1, 0] rfl ?_
  exact e_1

theorem r_10_isOne_2 {X : Ctx} (F : Fx X cX10_isOne RX10 2 1 0 0) {Φ : Option Value → HS → List Nat → Prop} (E : Ex X (some .boolean) 0 0 Φ) {P O : Nat → Nat → Option Nat} (hP : laP P) {I A : Nat → Nat → Int32} {J : Nat → Nat → Int64} {pl : List Nat} (hB : inB pl) {x1 : Int32} {p : Nat} (hk_p : kC p = 10) (hp_p : p ∈ pl) (hq_p : p + 1 ∈ pl)
    (o_1 : (6 ≤ x1) → vp_in 0 6)
    (e_2 : (6 ≤ x1) → (¬ (lg_cmp (J (p + 1) 0) 1) = 0) → Φ (some (.int 0)) (mC P O I A J) pl)
    (e_3 : (6 ≤ x1) → ((lg_cmp (J (p + 1) 0) 1) = 0) → Φ (some (.int 1)) (mC P O I A J) pl)
    (o_4 : (¬ (6 ≤ x1)) → vp_in x1 6)
    (e_5 : (¬ (6 ≤ x1)) → ((lg_cmp (J (p + 1) x1.toNatClampNeg) 0) = 0) → WA X (mC P O I A J) pl 0 0 2 [(0, .ref p), (1, .int (x1 + 1))] [])
    (e_6 : (¬ (6 ≤ x1)) → (¬ ((lg_cmp (J (p + 1) x1.toNatClampNeg) 0) = 0)) → Φ (some (.int 0)) (mC P O I A J) pl) :
    WA X (mC P O I A J) pl 0 0 2 [(0, .ref p), (1, .int x1)] [] := by
  refine a_iload_n F 1 dX10_isOne_2 rfl rfl ?_
  refine a_bipush (v := 6) F dX10_isOne_3 (by decide) ?_
  refine a_icmp_ge (tgt := 27) F dX10_isOne_5 (by decide) (fun (c_1 : 6 ≤ x1) => ?_) (fun (c_1 : ¬ (6 ≤ x1)) => ?_)
  · refine a_aload_n F 0 dX10_isOne_27 rfl rfl ?_
    refine a_getr (b := (p + 1)) F fl_10_9 rfl (hp_p) hk_p (laP_wh hP hk_p) dX10_isOne_28 ?_
    refine a_iconst (v := 0) F dX10_isOne_31 (by decide) ?_
    refine a_lald F (hq_p) (k_wh hk_p).1 (show vp_in _ (nC (p + 1)) from (k_wh hk_p).2 ▸ o_1 c_1) dX10_isOne_32 ?_
    refine a_lconst (v := 1) F dX10_isOne_33 (by decide) ?_
    refine a_lcmp F dX10_isOne_34 ?_
    refine a_if_ne (tgt := 42) F dX10_isOne_35 (by decide) (fun (c_2 : ¬ (lg_cmp (J (p + 1) 0) 1) = 0) => ?_) (fun (c_2 : (lg_cmp (J (p + 1) 0) 1) = 0) => ?_)
    · refine a_iconst (v := 0) F dX10_isOne_42 (by decide) ?_
      exact a_zret F E (by decide) dX10_isOne_43 (Nat.le_refl 0) (Nat.le_refl 0) (e_2 c_1 c_2)
    · refine a_iconst (v := 1) F dX10_isOne_38 (by decide) ?_
      refine a_goto (tgt := 43) F dX10_isOne_39 (by decide) ?_
      exact a_zret F E (by decide) dX10_isOne_43 (Nat.le_refl 0) (Nat.le_refl 0) (e_3 c_1 c_2)
  · refine a_aload_n F 0 dX10_isOne_8 rfl rfl ?_
    refine a_getr (b := (p + 1)) F fl_10_9 rfl (hp_p) hk_p (laP_wh hP hk_p) dX10_isOne_9 ?_
    refine a_iload_n F 1 dX10_isOne_12 rfl rfl ?_
    refine a_lald F (hq_p) (k_wh hk_p).1 (show vp_in _ (nC (p + 1)) from (k_wh hk_p).2 ▸ o_4 c_1) dX10_isOne_13 ?_
    refine a_lconst (v := 0) F dX10_isOne_14 (by decide) ?_
    refine a_lcmp F dX10_isOne_15 ?_
    refine a_if_eq (tgt := 21) F dX10_isOne_16 (by decide) (fun (c_3 : (lg_cmp (J (p + 1) x1.toNatClampNeg) 0) = 0) => ?_) (fun (c_3 : ¬ ((lg_cmp (J (p + 1) x1.toNatClampNeg) 0) = 0)) => ?_)
    · refine a_iinc (v := x1 + 1) F 1 dX10_isOne_21 rfl rfl (by decide) rfl ?_
      refine a_goto (tgt := 2) F dX10_isOne_24 (by decide) ?_
      refine a_sub [1, 0] rfl ?_
      exact e_5 c_1 c_3
    · refine a_iconst (v := 0) F dX10_isOne_19 (by decide) ?_
      exact a_zret F E (by decide) dX10_isOne_20 (Nat.le_refl 0) (Nat.le_refl 0) (e_6 c_1 c_3)

set_option maxRecDepth 10000 in
theorem c_10_isOne (l : Launch) {P O : Nat → Nat → Option Nat} (hP : laP P) (I A : Nat → Nat → Int32) (J : Nat → Nat → Int64) {pl : List Nat} (hB : inB pl) (p : Nat) (hk_p : kC p = 10) (hp_p : p ∈ pl) (hq_p : p + 1 ∈ pl) (hd : digW (J (p + 1)) 6) : Con l 1 yX10_isOne cX10_isOne 2 (some .boolean) [.ref p] (mC P O I A J) pl 0 0 (PC (some (.int (if valW (J (p + 1)) 6 = 1 then 1 else 0))) P O I A J pl) := by
  refine Con.of (by decide) (Nat.le_of_ble_eq_true rfl) (fun X hX9 hn9 F E => ?_)
  have one : valW (J (p + 1)) 6 = 1 → J (p + 1) 0 = 1 ∧ ∀ k, 1 ≤ k → k < 6 → J (p + 1) k = 0 := fun h => by
    refine ⟨by rw [vw_dg 6 hd 0 (by omega), h]; rfl, fun k k1 k2 => ?_⟩
    rw [vw_dg 6 hd k k2, h, Nat.div_eq_of_lt (Nat.one_lt_two_pow (by omega))]; rfl
  have loop : ∀ f k, k + f = 6 → 1 ≤ k → (∀ j, 1 ≤ j → j < k → J (p + 1) j = 0) → WA X (mC P O I A J) pl 0 0 2 [(0, .ref p), (1, .int (nI k))] [] := by
    intro f
    induction f with
    | zero =>
      intro k hk2 _ hz
      obtain rfl : k = 6 := by omega
      have h : (6 : Int32) ≤ nI 6 := by decide
      refine r_10_isOne_2 F E hP hB hk_p hp_p hq_p (fun _ => vp_in_nI (n := 0) (by omega) (by omega)) (fun _ c => ?_) (fun _ c => ?_) (fun z => absurd h z) (fun z => absurd h z) (fun z => absurd h z) <;> rw [lg_cmp_eq] at c
      · rw [if_neg (fun z => c (one z).1)]; exact ⟨rfl, rfl, rfl⟩
      · rw [if_pos (vw_1 c hz (by omega))]; exact ⟨rfl, rfl, rfl⟩
    | succ f ih =>
      intro k hk2 k1 hz
      have h : ¬ (6 : Int32) ≤ nI k := fun z => by have := (nI_gen 6 (by omega) (by omega)).mp z; omega
      refine r_10_isOne_2 F E hP hB hk_p hp_p hq_p (fun z => absurd z h) (fun z => absurd z h) (fun z => absurd z h) (fun _ => vp_in_nI (by omega) (by omega)) (fun _ c => ?_) (fun _ c => ?_) <;> rw [nI_clamp (by omega), lg_cmp_eq] at c
      · rw [nI_1]
        refine ih (k + 1) (by omega) (by omega) (fun j j1 hj => ?_)
        rcases Nat.lt_or_ge j k with z | z
        · exact hz j j1 z
        · obtain rfl : j = k := by omega
          exact c
      · rw [if_neg (fun z => c ((one z).2 k k1 (by omega)))]; exact ⟨rfl, rfl, rfl⟩
  exact r_10_isOne_0 F hP hB hk_p hp_p hq_p (loop 5 1 rfl (Nat.le_refl _) (fun j j1 hj => by omega))
