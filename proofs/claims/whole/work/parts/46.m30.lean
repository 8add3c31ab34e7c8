theorem l_full {n : Nat} (h : n < 2 ^ 64) : lN n &&& 268435455 = lN (n % 2 ^ 28) := wb_mask (k := 28) h (by decide)
theorem l_shr28 {n : Nat} (h : n < 2 ^ 62) : lN n >>> ((28 : Int32).toInt64 &&& 63) = lN (n / 2 ^ 28) := pf_shr (by decide +kernel) h
theorem l_shl28 (n : Nat) : lN n <<< ((28 : Int32).toInt64 &&& 63) = lN (n * 2 ^ 28) := wb_shl n (k := 28) (by decide)
theorem carry_lt {v c M : Nat} (hM : 0 < M) (hc : 0 < c) : v % M * c / M < c := by
  rw [Nat.div_lt_iff_lt_mul hM, Nat.mul_comm c M]; exact Nat.mul_lt_mul_of_pos_right (Nat.mod_lt _ hM) hc

theorem r_12_times_0 {X : Ctx} (F : Fx X cX12_times RX12 5 1 0 0) {I A : Nat → Nat → Int32} {J : Nat → Nat → Int64} {x1 : Int32} {q0 : Nat} (hp_q0 : q0 ∈ plM) (hk_q0 : kM q0 = 13)
    (e_1 : WA X (mS I A J) plM 0 0 5 [(0, .ref q0), (1, .int x1), (2, .long 0), (4, .int 0)] []) :
    WA X (mS I A J) plM 0 0 0 [(0, .ref q0), (1, .int x1)] [] := by
  refine a_lconst (v := 0) F dX12_times_0 (by decide) ?_
  refine a_lstore_n F dX12_times_1 rfl (by decide) rfl ?_
  refine a_iconst (v := 0) F dX12_times_2 (by decide) ?_
  refine a_istore F dX12_times_3 (by decide) rfl ?_
  refine a_sub [2, 3, 1, 0] rfl ?_
  exact e_1

theorem r_12_times_5 {X : Ctx} (F : Fx X cX12_times RX12 5 1 0 0) {Φ : Option Value → HS → List Nat → Prop} (E : Ex X none 0 0 Φ) {I A : Nat → Nat → Int32} {J : Nat → Nat → Int64} {x1 x4 : Int32} {y2 : Int64} {q0 : Nat} (hp_q0 : q0 ∈ plM) (hk_q0 : kM q0 = 13)
    (e_1 : ((Int32.ofNat (nM q0)) ≤ x4) → Φ none (mS I A J) plM)
    (o_2 : (¬ ((Int32.ofNat (nM q0)) ≤ x4)) → vp_in x4 (nM q0))
    (o_3 : (¬ ((Int32.ofNat (nM q0)) ≤ x4)) → vp_in x4 (nM q0))
    (e_4 : (¬ ((Int32.ofNat (nM q0)) ≤ x4)) → WA X (mS I (up1 A q0 (upd (A q0) x4.toNatClampNeg (((y2 + (((A q0 x4.toNatClampNeg : Int32).toInt64) * ((x1 : Int32).toInt64))) &&& 268435455 : Int64).toInt32))) J) plM 0 0 5 [(0, .ref q0), (1, .int x1), (2, .long ((y2 + (((A q0 x4.toNatClampNeg : Int32).toInt64) * ((x1 : Int32).toInt64))) >>> ((28 : Int32).toInt64 &&& 63))), (4, .int (x4 + 1))] []) :
    WA X (mS I A J) plM 0 0 5 [(0, .ref q0), (1, .int x1), (2, .long y2), (4, .int x4)] [] := by
  refine a_iload F 3 dX12_times_5 rfl ?_
  refine a_aload_n F 0 dX12_times_7 rfl rfl ?_
  refine a_alen (v := Int32.ofNat (nM q0)) F (hp_q0) hk_q0 (by decide) (by decide) rfl dX12_times_8 ?_
  refine a_icmp_ge (tgt := 44) F dX12_times_9 (by decide) (fun (c_1 : (Int32.ofNat (nM q0)) ≤ x4) => ?_) (fun (c_1 : ¬ ((Int32.ofNat (nM q0)) ≤ x4)) => ?_)
  · exact a_vret F E dX12_times_44 (Nat.le_refl 0) (Nat.le_refl 0) (e_1 c_1)
  · refine a_lload_n F 2 dX12_times_12 rfl rfl ?_
    refine a_aload_n F 0 dX12_times_13 rfl rfl ?_
    refine a_iload F 3 dX12_times_14 rfl ?_
    refine a_iald F (hp_q0) hk_q0 (o_2 c_1) dX12_times_16 ?_
    refine a_i2l F dX12_times_17 ?_
    refine a_iload_n F 1 dX12_times_18 rfl rfl ?_
    refine a_i2l F dX12_times_19 ?_
    refine a_lmul F dX12_times_20 ?_
    refine a_ladd F dX12_times_21 ?_
    refine a_lstore_n F dX12_times_22 rfl (by decide) rfl ?_
    refine a_aload_n F 1 dX12_times_23 rfl rfl ?_
    refine a_iload F 3 dX12_times_24 rfl ?_
    refine a_lload_n F 0 dX12_times_26 rfl rfl ?_
    refine a_ldc2 F kc_12_357 dX12_times_27 ?_
    refine a_land F dX12_times_30 ?_
    refine a_l2i F dX12_times_31 ?_
    refine a_iast F (hp_q0) hk_q0 (o_3 c_1) dX12_times_32 ?_
    refine a_lload_n F 0 dX12_times_33 rfl rfl ?_
    refine a_bipush (v := 28) F dX12_times_34 (by decide) ?_
    refine a_lshr F dX12_times_36 ?_
    refine a_lstore_n F dX12_times_37 rfl (by decide) rfl ?_
    refine a_iinc (v := x4 + 1) F 3 dX12_times_38 rfl rfl (by decide) rfl ?_
    refine a_goto (tgt := 5) F dX12_times_41 (by decide) ?_
    refine a_sub [2, 3, 1, 0] rfl ?_
    exact e_4 c_1

set_option maxRecDepth 10000 in
theorem c_times (l : Launch) (I A : Nat → Nat → Int32) (J : Nat → Nat → Int64) (q : Nat) (c : Nat) (hq : q ∈ plM) (hk : kM q = 13) (hn : nM q ≤ 400) (hd : digV (A q) (nM q)) (hc0 : 0 < c) (hc : c ≤ 64) : Con l 1 yX12_times cX12_times 5 none [.ref q, .int (nI c)] (mS I A J) plM 0 0 (PM none I (up1 A q (putR (A q) (nM q) (valR (A q) (nM q) * c))) J) := by
  refine Con.of (by decide) (Nat.le_of_ble_eq_true rfl) (fun X hX9 hn9 F E => ?_)
  refine r_12_times_0 F hq hk ?_
  generalize hv : valR (A q) (nM q) = v at *
  have dg : ∀ k, k < nM q → A q k = nI (v / 2 ^ (28 * k) % 2 ^ 28) := fun k hk => by rw [← hv]; exact val_dg _ hd k hk
  have loop : ∀ f k, k + f = nM q → WA X (mS I (up1 A q (putR (A q) k (v * c))) J) plM 0 0 5 [(0, .ref q), (1, .int (nI c)), (2, .long (lN ((v % 2 ^ (28 * k)) * c / 2 ^ (28 * k)))), (4, .int (nI k))] [] := by
    intro f
    induction f with
    | zero =>
      intro k hk2
      obtain rfl : k = nM q := by omega
      have h : Int32.ofNat (nM q) ≤ nI (nM q) := (nI_leI (a := nM q) (b := nM q) (by omega) (by omega)).mpr (Nat.le_refl _)
      exact r_12_times_5 F E hq hk (fun _ => ⟨rfl, rfl, rfl⟩) (fun z => absurd h z) (fun z => absurd h z) (fun z => absurd h z)
    | succ f ih =>
      intro k hk2
      have h : ¬ Int32.ofNat (nM q) ≤ nI k := fun z => by have := (nI_leI (a := nM q) (b := k) (by omega) (by omega)).mp z; omega
      refine r_12_times_5 F E hq hk (fun z => absurd z h) (fun _ => vp_in_nI (by omega) (by omega)) (fun _ => vp_in_nI (by omega) (by omega)) (fun _ => ?_)
      have hpos : 0 < 2 ^ (28 * k) := Nat.two_pow_pos _
      have hdlt : v / 2 ^ (28 * k) % 2 ^ 28 < 2 ^ 28 := Nat.mod_lt _ (by decide)
      have hcar := carry_lt (v := v) (M := 2 ^ (28 * k)) hpos hc0
      have hmul : v / 2 ^ (28 * k) % 2 ^ 28 * c ≤ 2 ^ 28 * 64 := Nat.mul_le_mul (Nat.le_of_lt hdlt) hc
      have er : putR (A q) k (v * c) k = nI (v / 2 ^ (28 * k) % 2 ^ 28) := by unfold putR putH; rw [if_neg (by omega)]; exact dg k (by omega)
      rw [nI_clamp (show k < 2 ^ 31 by omega), up1_s, er, nI_l (by omega), nI_l (by omega), lN_mul, lN_add, ← cs_1 hpos, ← p28, l_full (by rw [p28, cs_1 hpos]; omega), l_shr28 (by rw [p28, cs_1 hpos]; omega), lN_i, up1_up1, nI_1]
      rw [p28, cs_2 hpos, putH_up, Nat.div_div_eq_div_mul, ← p28]
      exact ih (k + 1) (by omega)
  have := loop (nM q) 0 (by omega)
  rw [show putR (A q) 0 (v * c) = A q from putH_e _ _ _, up1_id, show v % 2 ^ (28 * 0) * c / 2 ^ (28 * 0) = 0 by simp [Nat.mod_one]] at this
  exact this

theorem r_12_over_0 {X : Ctx} (F : Fx X cX12_over RX12 5 1 0 0) {I A : Nat → Nat → Int32} {J : Nat → Nat → Int64} {x1 : Int32} {q0 : Nat} (hp_q0 : q0 ∈ plM) (hk_q0 : kM q0 = 13)
    (e_1 : WA X (mS I A J) plM 0 0 8 [(0, .ref q0), (1, .int x1), (2, .long 0), (4, .int ((Int32.ofNat (nM q0)) - 1))] []) :
    WA X (mS I A J) plM 0 0 0 [(0, .ref q0), (1, .int x1)] [] := by
  refine a_lconst (v := 0) F dX12_over_0 (by decide) ?_
  refine a_lstore_n F dX12_over_1 rfl (by decide) rfl ?_
  refine a_aload_n F 1 dX12_over_2 rfl rfl ?_
  refine a_alen (v := Int32.ofNat (nM q0)) F (hp_q0) hk_q0 (by decide) (by decide) rfl dX12_over_3 ?_
  refine a_iconst (v := 1) F dX12_over_4 (by decide) ?_
  refine a_isub F dX12_over_5 ?_
  refine a_istore F dX12_over_6 (by decide) rfl ?_
  refine a_sub [2, 3, 1, 0] rfl ?_
  exact e_1

theorem r_12_over_8 {X : Ctx} (F : Fx X cX12_over RX12 5 1 0 0) {Φ : Option Value → HS → List Nat → Prop} (E : Ex X (some .int) 0 0 Φ) {I A : Nat → Nat → Int32} {J : Nat → Nat → Int64} {x1 x4 : Int32} {y2 : Int64} {q0 : Nat} (hp_q0 : q0 ∈ plM) (hk_q0 : kM q0 = 13)
    (e_1 : (x4 < 0) → Φ (some (.int ((y2 : Int64).toInt32))) (mS I A J) plM)
    (o_2 : (¬ (x4 < 0)) → vp_in x4 (nM q0))
    (o_3 : (¬ (x4 < 0)) → ¬ ((x1 : Int32).toInt64) = 0)
    (o_4 : (¬ (x4 < 0)) → vp_in x4 (nM q0))
    (o_5 : (¬ (x4 < 0)) → ¬ ((x1 : Int32).toInt64) = 0)
    (e_6 : (¬ (x4 < 0)) → WA X (mS I (up1 A q0 (upd (A q0) x4.toNatClampNeg ((((y2 <<< ((28 : Int32).toInt64 &&& 63)) ||| ((A q0 x4.toNatClampNeg : Int32).toInt64)) / ((x1 : Int32).toInt64) : Int64).toInt32))) J) plM 0 0 8 [(0, .ref q0), (1, .int x1), (2, .long (((y2 <<< ((28 : Int32).toInt64 &&& 63)) ||| ((A q0 x4.toNatClampNeg : Int32).toInt64)) - ((y2 <<< ((28 : Int32).toInt64 &&& 63)) ||| ((A q0 x4.toNatClampNeg : Int32).toInt64)) / ((x1 : Int32).toInt64) * ((x1 : Int32).toInt64))), (4, .int (x4 + (-1)))] []) :
    WA X (mS I A J) plM 0 0 8 [(0, .ref q0), (1, .int x1), (2, .long y2), (4, .int x4)] [] := by
  refine a_iload F 3 dX12_over_8 rfl ?_
  refine a_if_lt (tgt := 44) F dX12_over_10 (by decide) (fun (c_1 : x4 < 0) => ?_) (fun (c_1 : ¬ (x4 < 0)) => ?_)
  · refine a_lload_n F 2 dX12_over_44 rfl rfl ?_
    refine a_l2i F dX12_over_45 ?_
    exact a_iret F E dX12_over_46 (Nat.le_refl 0) (Nat.le_refl 0) (e_1 c_1)
  · refine a_lload_n F 2 dX12_over_13 rfl rfl ?_
    refine a_bipush (v := 28) F dX12_over_14 (by decide) ?_
    refine a_lshl F dX12_over_16 ?_
    refine a_aload_n F 0 dX12_over_17 rfl rfl ?_
    refine a_iload F 3 dX12_over_18 rfl ?_
    refine a_iald F (hp_q0) hk_q0 (o_2 c_1) dX12_over_20 ?_
    refine a_i2l F dX12_over_21 ?_
    refine a_lor F dX12_over_22 ?_
    refine a_lstore_n F dX12_over_23 rfl (by decide) rfl ?_
    refine a_aload_n F 1 dX12_over_24 rfl rfl ?_
    refine a_iload F 3 dX12_over_25 rfl ?_
    refine a_lload_n F 0 dX12_over_27 rfl rfl ?_
    refine a_iload_n F 2 dX12_over_28 rfl rfl ?_
    refine a_i2l F dX12_over_29 ?_
    refine a_ldiv F dX12_over_30 (o_3 c_1) ?_
    refine a_l2i F dX12_over_31 ?_
    refine a_iast F (hp_q0) hk_q0 (o_4 c_1) dX12_over_32 ?_
    refine a_lload_n F 0 dX12_over_33 rfl rfl ?_
    refine a_iload_n F 2 dX12_over_34 rfl rfl ?_
    refine a_i2l F dX12_over_35 ?_
    refine a_lrem F dX12_over_36 (o_5 c_1) ?_
    refine a_lstore_n F dX12_over_37 rfl (by decide) rfl ?_
    refine a_iinc (v := x4 + (-1)) F 3 dX12_over_38 rfl rfl (by decide) rfl ?_
    refine a_goto (tgt := 8) F dX12_over_41 (by decide) ?_
    refine a_sub [2, 3, 1, 0] rfl ?_
    exact e_6 c_1

set_option maxRecDepth 10000 in
theorem c_over (l : Launch) (I A : Nat → Nat → Int32) (J : Nat → Nat → Int64) (q : Nat) (c : Nat) (hq : q ∈ plM) (hk : kM q = 13) (hn : nM q ≤ 400) (hd : digV (A q) (nM q)) (hc0 : 0 < c) (hc : c ≤ 64) : Con l 1 yX12_over cX12_over 5 (some .int) [.ref q, .int (nI c)] (mS I A J) plM 0 0 (PM (some (.int (nI (valR (A q) (nM q) % c)))) I (up1 A q (putR (A q) (nM q) (valR (A q) (nM q) / c))) J) := by
  refine Con.of (by decide) (Nat.le_of_ble_eq_true rfl) (fun X hX9 hn9 F E => ?_)
  refine r_12_over_0 F hq hk ?_
  have hlt := val_lt _ hd
  generalize hv : valR (A q) (nM q) = v at *
  have dg : ∀ k, k < nM q → A q k = nI (v / 2 ^ (28 * k) % 2 ^ 28) := fun k hk => by rw [← hv]; exact val_dg _ hd k hk
  have c64 : ¬ ((nI c : Int32).toInt64) = 0 := by rw [nI_l (by omega)]; intro z; have := (pk_lEQ (a := c) (b := 0) (by omega) (by decide)).mp z; omega
  have loop : ∀ k, k ≤ nM q → WA X (mS I (up1 A q (putH (A q) k (nM q) (v / c))) J) plM 0 0 8 [(0, .ref q), (1, .int (nI c)), (2, .long (lN (v / 2 ^ (28 * k) % c))), (4, .int (nI k + (-1)))] [] := by
    intro k
    induction k with
    | zero =>
      intro _
      have h0 : nI 0 + (-1) < 0 := by decide
      refine r_12_over_8 F E hq hk (fun _ => ?_) (fun h => absurd h0 h) (fun h => absurd h0 h) (fun h => absurd h0 h) (fun h => absurd h0 h) (fun h => absurd h0 h)
      rw [lN_i, Nat.mul_zero, Nat.pow_zero, Nat.div_one]
      exact ⟨rfl, rfl, rfl⟩
    | succ k ih =>
      intro hk2
      rw [nI_m1]
      have h0 : ¬ nI k < 0 := nI_pos (by omega)
      refine r_12_over_8 F E hq hk (fun h => absurd h h0) (fun _ => vp_in_nI (by omega) (by omega)) (fun _ => c64) (fun _ => vp_in_nI (by omega) (by omega)) (fun _ => c64) (fun _ => ?_)
      have hpos : 0 < 2 ^ (28 * k) := Nat.two_pow_pos _
      have hdlt : v / 2 ^ (28 * k) % 2 ^ 28 < 2 ^ 28 := Nat.mod_lt _ (by decide)
      have hr : v / 2 ^ (28 * (k + 1)) % c < c := Nat.mod_lt _ hc0
      have hmul : v / 2 ^ (28 * (k + 1)) % c * 2 ^ 28 ≤ 64 * 2 ^ 28 := Nat.mul_le_mul_right _ (by omega)
      have ov := ov_1 (v := v) (c := c) (M := 2 ^ (28 * k)) (B := 2 ^ 28) hc0 (by decide)
      rw [← p28] at ov
      have er : putH (A q) (k + 1) (nM q) (v / c) k = nI (v / 2 ^ (28 * k) % 2 ^ 28) := by unfold putH; rw [if_neg (by omega)]; exact dg k (by omega)
      rw [nI_clamp (show k < 2 ^ 31 by omega), up1_s, er, nI_l (by omega), nI_l (by omega), l_shl28, g_or (k := 28) rfl hdlt (by omega), pk_lRem (by omega) hc0 (by omega), ov.2, pk_lDiv (by omega) hc0 (by omega), lN_i, up1_up1, ← ov.1, putH_dn _ _ _ _ (by omega)]
      exact ih (by omega)
  have := loop (nM q) (Nat.le_refl _)
  rw [putH_e, up1_id, Nat.div_eq_of_lt hlt, Nat.zero_mod] at this
  rw [show Int32.ofNat (nM q) - 1 = nI (nM q) + (-1) by show nI (nM q) - 1 = _; grind]
  exact this
