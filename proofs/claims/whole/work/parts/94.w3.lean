theorem adp_0 (T X Y : Nat) : T + (X % 2 ^ (31 * 0)) * Y = T := by rw [Nat.mul_zero, Nat.pow_zero, Nat.mod_one, Nat.zero_mul, Nat.add_zero]
theorem pw_self2 {r : Nat → Int64} {n v : Nat} (h : digW r n) (e : valW r n = v) : putW r n v = r := by subst e; exact pw_self h
theorem set_row (r : Nat → Int64) {v : Nat} (hv : v < 2 ^ 63) : vp_updL (vp_updL (vp_updL (fillF r 6 (fun _ => (0 : Int64))) 0 (lN (v % 2 ^ 31))) 1 (lN (v / 2 ^ 31 % 2 ^ 31))) 2 (lN (v / 2 ^ 62)) = putW r 6 v := by
  funext k
  by_cases c2 : k = 2
  · subst c2; rw [updL_in, pw_in (by omega), show 31 * 2 = 62 from rfl]; congr 1; omega
  rw [updL_out c2]
  by_cases c1 : k = 1
  · subst c1; rw [updL_in, pw_in (by omega)]
  rw [updL_out c1]
  by_cases c0 : k = 0
  · subst c0; rw [updL_in, pw_in (by omega), Nat.mul_zero, Nat.pow_zero, Nat.div_one]
  rw [updL_out c0]
  unfold fillF
  by_cases c : k < 6
  · rw [if_pos c, pw_in c, Nat.div_eq_of_lt (Nat.lt_of_lt_of_le hv (Nat.pow_le_pow_right (by decide) (by omega)))]; rfl
  · rw [if_neg c, pw_out (by omega)]

theorem r_10_set_0 {X : Ctx} (F : Fx X cX10_set RX10 3 2 0 0) {Φ : Option Value → HS → List Nat → Prop} (E : Ex X none 0 0 Φ) {P O : Nat → Nat → Option Nat} (hP : laP P) {I A : Nat → Nat → Int32} {J : Nat → Nat → Int64} {pl : List Nat} (hB : inB pl) {y1 : Int64} {p : Nat} (hk_p : kC p = 10) (hp_p : p ∈ pl) (hq_p : p + 1 ∈ pl)
    (o_1 : nC (p + 1) ≤ 5000)
    (o_2 : vp_in 0 6)
    (o_3 : vp_in 1 6)
    (o_4 : vp_in 2 6)
    (e_5 : Φ none (mC P O I A (up1 (up1 (up1 (up1 J (p + 1) (fillF (J (p + 1)) (nC (p + 1)) (fun _ => (0 : Int64)))) (p + 1) (vp_updL ((up1 J (p + 1) (fillF (J (p + 1)) (nC (p + 1)) (fun _ => (0 : Int64)))) (p + 1)) 0 (y1 &&& 2147483647))) (p + 1) (vp_updL ((up1 (up1 J (p + 1) (fillF (J (p + 1)) (nC (p + 1)) (fun _ => (0 : Int64)))) (p + 1) (vp_updL ((up1 J (p + 1) (fillF (J (p + 1)) (nC (p + 1)) (fun _ => (0 : Int64)))) (p + 1)) 0 (y1 &&& 2147483647))) (p + 1)) 1 ((((y1 : Int64).toUInt64 >>> ((31 : Int32).toInt64.toUInt64 &&& Int64.toUInt64 63)).toInt64) &&& 2147483647))) (p + 1) (vp_updL ((up1 (up1 (up1 J (p + 1) (fillF (J (p + 1)) (nC (p + 1)) (fun _ => (0 : Int64)))) (p + 1) (vp_updL ((up1 J (p + 1) (fillF (J (p + 1)) (nC (p + 1)) (fun _ => (0 : Int64)))) (p + 1)) 0 (y1 &&& 2147483647))) (p + 1) (vp_updL ((up1 (up1 J (p + 1) (fillF (J (p + 1)) (nC (p + 1)) (fun _ => (0 : Int64)))) (p + 1) (vp_updL ((up1 J (p + 1) (fillF (J (p + 1)) (nC (p + 1)) (fun _ => (0 : Int64)))) (p + 1)) 0 (y1 &&& 2147483647))) (p + 1)) 1 ((((y1 : Int64).toUInt64 >>> ((31 : Int32).toInt64.toUInt64 &&& Int64.toUInt64 63)).toInt64) &&& 2147483647))) (p + 1)) 2 (((y1 : Int64).toUInt64 >>> ((62 : Int32).toInt64.toUInt64 &&& Int64.toUInt64 63)).toInt64)))) pl) :
    WA X (mC P O I A J) pl 0 0 0 [(0, .ref p), (1, .long y1)] [] := by
  refine a_aload_n F 0 dX10_set_0 rfl rfl ?_
  refine a_getr (b := (p + 1)) F fl_10_9 rfl (hp_p) hk_p (laP_wh hP hk_p) dX10_set_1 ?_
  refine a_lconst (v := 0) F dX10_set_4 (by decide) ?_
  refine a_callS (As := [.ref (p + 1), .long 0]) (st := []) F (c_J7_fill_d0a16 (xl X) hP I A J hB (p + 1) (k_wh hk_p).1 (hq_p) (0 : Int64) (o_1)) ml_10_13 sm_yJ7_fill_d0a16 (by decide) rfl dX10_set_5 (by decide) (Nat.le_refl 0) (Nat.le_refl 0) (hl_r (hp_p) (hl_l hl_nil)) hs_nil ?_
  rintro _ _ _ ⟨rfl, rfl, rfl⟩ _
  show WA X (mC P O I A (up1 J (p + 1) (fillF (J (p + 1)) (nC (p + 1)) (fun _ => (0 : Int64))))) pl 0 0 8 [(0, .ref p), (1, .long y1)] []
  refine a_aload_n F 0 dX10_set_8 rfl rfl ?_
  refine a_getr (b := (p + 1)) F fl_10_9 rfl (hp_p) hk_p (laP_wh hP hk_p) dX10_set_9 ?_
  refine a_iconst (v := 0) F dX10_set_12 (by decide) ?_
  refine a_lload_n F 1 dX10_set_13 rfl rfl ?_
  refine a_ldc2 F kc_10_19 dX10_set_14 ?_
  refine a_land F dX10_set_17 ?_
  refine a_last F (hq_p) (k_wh hk_p).1 (show vp_in _ (nC (p + 1)) from (k_wh hk_p).2 ▸ o_2) dX10_set_18 ?_
  refine a_aload_n F 0 dX10_set_19 rfl rfl ?_
  refine a_getr (b := (p + 1)) F fl_10_9 rfl (hp_p) hk_p (laP_wh hP hk_p) dX10_set_20 ?_
  refine a_iconst (v := 1) F dX10_set_23 (by decide) ?_
  refine a_lload_n F 1 dX10_set_24 rfl rfl ?_
  refine a_bipush (v := 31) F dX10_set_25 (by decide) ?_
  refine a_lushr F dX10_set_27 ?_
  refine a_ldc2 F kc_10_19 dX10_set_28 ?_
  refine a_land F dX10_set_31 ?_
  refine a_last F (hq_p) (k_wh hk_p).1 (show vp_in _ (nC (p + 1)) from (k_wh hk_p).2 ▸ o_3) dX10_set_32 ?_
  refine a_aload_n F 0 dX10_set_33 rfl rfl ?_
  refine a_getr (b := (p + 1)) F fl_10_9 rfl (hp_p) hk_p (laP_wh hP hk_p) dX10_set_34 ?_
  refine a_iconst (v := 2) F dX10_set_37 (by decide) ?_
  refine a_lload_n F 1 dX10_set_38 rfl rfl ?_
  refine a_bipush (v := 62) F dX10_set_39 (by decide) ?_
  refine a_lushr F dX10_set_41 ?_
  refine a_last F (hq_p) (k_wh hk_p).1 (show vp_in _ (nC (p + 1)) from (k_wh hk_p).2 ▸ o_4) dX10_set_42 ?_
  exact a_vret F E dX10_set_43 (Nat.le_refl 0) (Nat.le_refl 0) (e_5)

set_option maxRecDepth 10000 in
theorem c_10_set (l : Launch) {P O : Nat → Nat → Option Nat} (hP : laP P) (I A : Nat → Nat → Int32) (J : Nat → Nat → Int64) {pl : List Nat} (hB : inB pl) (p : Nat) (hk_p : kC p = 10) (hp_p : p ∈ pl) (hq_p : p + 1 ∈ pl) (v : Nat) (hv : v < 2 ^ 63) : Con l 2 yX10_set cX10_set 3 none [.ref p, .long (lN v)] (mC P O I A J) pl 0 0 (PC none P O I A (up1 J (p + 1) (putW (J (p + 1)) 6 v)) pl) := by
  refine Con.of (by decide) (Nat.le_of_ble_eq_true rfl) (fun X hX9 hn9 F E => ?_)
  refine r_10_set_0 F E hP hB hk_p hp_p hq_p (by rw [(k_wh hk_p).2]; omega) (vp_in_nI (n := 0) (by omega) (by omega)) (vp_in_nI (n := 1) (by omega) (by omega)) (vp_in_nI (n := 2) (by omega) (by omega)) ?_
  have v64 : v < 2 ^ 64 := by omega
  rw [l_full31 v64, l_us31 v64, l_us62 v64, l_full31 (by omega), (k_wh hk_p).2]
  simp only [up1_up1, up1_s]
  rw [set_row _ hv]
  exact ⟨rfl, rfl, rfl⟩

theorem r_10_add_0 {X : Ctx} (F : Fx X cX10_add RX10 7 1 0 0) {Φ : Option Value → HS → List Nat → Prop} (E : Ex X none 0 0 Φ) {P O : Nat → Nat → Option Nat} (hP : laP P) {I A : Nat → Nat → Int32} {J : Nat → Nat → Int64} {pl : List Nat} (hB : inB pl) {x2 x3 : Int32} {p : Nat} (hk_p : kC p = 10) (hp_p : p ∈ pl) (hq_p : p + 1 ∈ pl) {q1 : Nat} (hk_q1 : kC q1 = 14) (hp_q1 : q1 ∈ pl)
    (e_1 : (x2 < 0) → Φ none (mC P O I A J) pl)
    (e_2 : (¬ (x2 < 0)) → ((x2 + 6) ≤ (Int32.ofNat (nC q1))) → WA X (mC P O I A J) pl 0 0 20 [(0, .ref p), (1, .ref q1), (2, .int x2), (3, .int x3), (4, .long 0), (6, .int 0)] [])
    (e_3 : (¬ (x2 < 0)) → (¬ ((x2 + 6) ≤ (Int32.ofNat (nC q1)))) → Φ none (mC P O I A J) pl) :
    WA X (mC P O I A J) pl 0 0 0 [(0, .ref p), (1, .ref q1), (2, .int x2), (3, .int x3)] [] := by
  refine a_iload_n F 2 dX10_add_0 rfl rfl ?_
  refine a_if_lt (tgt := 13) F dX10_add_1 (by decide) (fun (c_1 : x2 < 0) => ?_) (fun (c_1 : ¬ (x2 < 0)) => ?_)
  · exact a_vret F E dX10_add_13 (Nat.le_refl 0) (Nat.le_refl 0) (e_1 c_1)
  · refine a_iload_n F 2 dX10_add_4 rfl rfl ?_
    refine a_bipush (v := 6) F dX10_add_5 (by decide) ?_
    refine a_iadd F dX10_add_7 ?_
    refine a_aload_n F 1 dX10_add_8 rfl rfl ?_
    refine a_alen (v := Int32.ofNat (nC q1)) F (hp_q1) hk_q1 (by decide) (by decide) rfl dX10_add_9 ?_
    refine a_icmp_le (tgt := 14) F dX10_add_10 (by decide) (fun (c_2 : (x2 + 6) ≤ (Int32.ofNat (nC q1))) => ?_) (fun (c_2 : ¬ ((x2 + 6) ≤ (Int32.ofNat (nC q1)))) => ?_)
    · refine a_lconst (v := 0) F dX10_add_14 (by decide) ?_
      refine a_lstore F dX10_add_15 (by decide) rfl ?_
      refine a_iconst (v := 0) F dX10_add_17 (by decide) ?_
      refine a_istore F dX10_add_18 (by decide) rfl ?_
      refine a_sub [2, 3, 4, 5, 1, 0] rfl ?_
      exact e_2 c_1 c_2
    · exact a_vret F E dX10_add_13 (Nat.le_refl 0) (Nat.le_refl 0) (e_3 c_1 c_2)

theorem r_10_add_20 {X : Ctx} (F : Fx X cX10_add RX10 7 1 0 0) {Φ : Option Value → HS → List Nat → Prop} (E : Ex X none 0 0 Φ) {P O : Nat → Nat → Option Nat} (hP : laP P) {I A : Nat → Nat → Int32} {J : Nat → Nat → Int64} {pl : List Nat} (hB : inB pl) {x2 x3 x6 : Int32} {y4 : Int64} {p : Nat} (hk_p : kC p = 10) (hp_p : p ∈ pl) (hq_p : p + 1 ∈ pl) {q1 : Nat} (hk_q1 : kC q1 = 14) (hp_q1 : q1 ∈ pl)
    (e_1 : (6 ≤ x6) → Φ none (mC P O I A J) pl)
    (o_2 : (¬ (6 ≤ x6)) → vp_in x6 6)
    (o_3 : (¬ (6 ≤ x6)) → vp_in (x2 + x6) (nC q1))
    (o_4 : (¬ (6 ≤ x6)) → vp_in x6 6)
    (e_5 : (¬ (6 ≤ x6)) → WA X (mC P O I A (up1 J (p + 1) (vp_updL (J (p + 1)) x6.toNatClampNeg ((y4 + ((J (p + 1) x6.toNatClampNeg) + (((x3 : Int32).toInt64) * (J q1 (x2 + x6).toNatClampNeg)))) &&& 2147483647)))) pl 0 0 20 [(0, .ref p), (1, .ref q1), (2, .int x2), (3, .int x3), (4, .long ((((y4 + ((J (p + 1) x6.toNatClampNeg) + (((x3 : Int32).toInt64) * (J q1 (x2 + x6).toNatClampNeg)))) : Int64).toUInt64 >>> ((31 : Int32).toInt64.toUInt64 &&& Int64.toUInt64 63)).toInt64)), (6, .int (x6 + 1))] []) :
    WA X (mC P O I A J) pl 0 0 20 [(0, .ref p), (1, .ref q1), (2, .int x2), (3, .int x3), (4, .long y4), (6, .int x6)] [] := by
  refine a_iload F 5 dX10_add_20 rfl ?_
  refine a_bipush (v := 6) F dX10_add_22 (by decide) ?_
  refine a_icmp_ge (tgt := 75) F dX10_add_24 (by decide) (fun (c_3 : 6 ≤ x6) => ?_) (fun (c_3 : ¬ (6 ≤ x6)) => ?_)
  · exact a_vret F E dX10_add_75 (Nat.le_refl 0) (Nat.le_refl 0) (e_1 c_3)
  · refine a_lload F 4 dX10_add_27 rfl ?_
    refine a_aload_n F 0 dX10_add_29 rfl rfl ?_
    refine a_getr (b := (p + 1)) F fl_10_9 rfl (hp_p) hk_p (laP_wh hP hk_p) dX10_add_30 ?_
    refine a_iload F 5 dX10_add_33 rfl ?_
    refine a_lald F (hq_p) (k_wh hk_p).1 (show vp_in _ (nC (p + 1)) from (k_wh hk_p).2 ▸ o_2 c_3) dX10_add_35 ?_
    refine a_iload_n F 3 dX10_add_36 rfl rfl ?_
    refine a_i2l F dX10_add_37 ?_
    refine a_aload_n F 1 dX10_add_38 rfl rfl ?_
    refine a_iload_n F 2 dX10_add_39 rfl rfl ?_
    refine a_iload F 5 dX10_add_40 rfl ?_
    refine a_iadd F dX10_add_42 ?_
    refine a_lald F (hp_q1) hk_q1 (o_3 c_3) dX10_add_43 ?_
    refine a_lmul F dX10_add_44 ?_
    refine a_ladd F dX10_add_45 ?_
    refine a_ladd F dX10_add_46 ?_
    refine a_lstore F dX10_add_47 (by decide) rfl ?_
    refine a_aload_n F 1 dX10_add_49 rfl rfl ?_
    refine a_getr (b := (p + 1)) F fl_10_9 rfl (hp_p) hk_p (laP_wh hP hk_p) dX10_add_50 ?_
    refine a_iload F 5 dX10_add_53 rfl ?_
    refine a_lload F 0 dX10_add_55 rfl ?_
    refine a_ldc2 F kc_10_19 dX10_add_57 ?_
    refine a_land F dX10_add_60 ?_
    refine a_last F (hq_p) (k_wh hk_p).1 (show vp_in _ (nC (p + 1)) from (k_wh hk_p).2 ▸ o_4 c_3) dX10_add_61 ?_
    refine a_lload F 0 dX10_add_62 rfl ?_
    refine a_bipush (v := 31) F dX10_add_64 (by decide) ?_
    refine a_lushr F dX10_add_66 ?_
    refine a_lstore F dX10_add_67 (by decide) rfl ?_
    refine a_iinc (v := x6 + 1) F 5 dX10_add_69 rfl rfl (by decide) rfl ?_
    refine a_goto (tgt := 20) F dX10_add_72 (by decide) ?_
    refine a_sub [2, 3, 4, 5, 1, 0] rfl ?_
    exact e_5 c_3

set_option maxRecDepth 10000 in
theorem c_10_add (l : Launch) {P O : Nat → Nat → Option Nat} (hP : laP P) (I A : Nat → Nat → Int32) (J : Nat → Nat → Int64) {pl : List Nat} (hB : inB pl) (p : Nat) (hk_p : kC p = 10) (hp_p : p ∈ pl) (hq_p : p + 1 ∈ pl) (q1 : Nat) (hk_q1 : kC q1 = 14) (hp_q1 : q1 ∈ pl) (a c : Nat) (hne : q1 ≠ p + 1) (hn : nC q1 ≤ 10000) (ha : a + 6 ≤ nC q1) (hc : c ≤ 2) (h1 : digW (J (p + 1)) 6) (h2 : digW (fun k => J q1 (a + k)) 6) : Con l 1 yX10_add cX10_add 7 none [.ref p, .ref q1, .int (nI a), .int (nI c)] (mC P O I A J) pl 0 0 (PC none P O I A (up1 J (p + 1) (putW (J (p + 1)) 6 (valW (J (p + 1)) 6 + valW (fun k => J q1 (a + k)) 6 * c))) pl) := by
  refine Con.of (by decide) (Nat.le_of_ble_eq_true rfl) (fun X hX9 hn9 F E => ?_)
  generalize hS : valW (J (p + 1)) 6 = S at *
  generalize hR : valW (fun k => J q1 (a + k)) 6 = R at *
  have dS : ∀ k, k < 6 → J (p + 1) k = lN (S / 2 ^ (31 * k) % 2 ^ 31) := fun k hk => by rw [← hS]; exact vw_dg _ h1 k hk
  have dR : ∀ k, k < 6 → J q1 (a + k) = lN (R / 2 ^ (31 * k) % 2 ^ 31) := fun k hk => by rw [← hR]; exact vw_dg _ h2 k hk
  have loop : ∀ f k, k + f = 6 → WA X (mC P O I A (up1 J (p + 1) (putW (J (p + 1)) k (S + R * c)))) pl 0 0 20 [(0, .ref p), (1, .ref q1), (2, .int (nI a)), (3, .int (nI c)), (4, .long (lN ((S % 2 ^ (31 * k) + (R % 2 ^ (31 * k)) * c) / 2 ^ (31 * k)))), (6, .int (nI k))] [] := by
    intro f
    induction f with
    | zero =>
      intro k hk
      obtain rfl : k = 6 := by omega
      have h : (6 : Int32) ≤ nI 6 := by decide
      exact r_10_add_20 F E hP hB hk_p hp_p hq_p hk_q1 hp_q1 (fun _ => ⟨rfl, rfl, rfl⟩) (fun z => absurd h z) (fun z => absurd h z) (fun z => absurd h z) (fun z => absurd h z)
    | succ f ih =>
      intro k hk
      have h : ¬ (6 : Int32) ≤ nI k := fun z => by have := (nI_gen 6 (by omega) (by omega)).mp z; omega
      refine r_10_add_20 F E hP hB hk_p hp_p hq_p hk_q1 hp_q1 (fun z => absurd z h) (fun _ => vp_in_nI (by omega) (by omega)) (fun _ => by rw [nI_add]; exact vp_in_nI (by omega) (by omega)) (fun _ => vp_in_nI (by omega) (by omega)) (fun _ => ?_)
      have hpos : 0 < 2 ^ (31 * k) := Nat.two_pow_pos _
      have hd1 : S / 2 ^ (31 * k) % 2 ^ 31 < 2 ^ 31 := Nat.mod_lt _ (by decide)
      have hd2 : R / 2 ^ (31 * k) % 2 ^ 31 < 2 ^ 31 := Nat.mod_lt _ (by decide)
      have hcar := carry2_lt (S := S) (R := R) (c := c) (M := 2 ^ (31 * k)) hpos
      have hmul : R / 2 ^ (31 * k) % 2 ^ 31 * c ≤ 2 ^ 31 * 2 := Nat.mul_le_mul (Nat.le_of_lt hd2) hc
      have er : putW (J (p + 1)) k (S + R * c) k = lN (S / 2 ^ (31 * k) % 2 ^ 31) := by rw [pw_out (Nat.le_refl _)]; exact dS k (by omega)
      rw [nI_add, nI_clamp (show k < 2 ^ 31 by omega), nI_clamp (by omega), up1_s, up1_p hne, er, dR k (by omega), nI_l (by omega), lN_mul, Nat.mul_comm c, lN_add, lN_add, ← cs_3 hpos, ← p31, l_full31 (by rw [p31, cs_3 hpos]; omega), l_us31 (by rw [p31, cs_3 hpos]; omega), up1_up1, nI_1]
      rw [p31, cs_4 hpos, pwH_up, Nat.div_div_eq_div_mul, ← p31]
      exact ih (k + 1) (by omega)
  have hle : nI a + 6 ≤ Int32.ofNat (nC q1) := by
    rw [show nI a + 6 = nI (a + 6) from nI_add a 6]; exact (nI_leI (a := a + 6) (b := nC q1) (by omega) (by omega)).mpr ha
  refine r_10_add_0 F E hP hB hk_p hp_p hq_p hk_q1 hp_q1 (fun z => absurd z (nI_pos (by omega))) (fun _ _ => ?_) (fun _ z => absurd hle z)
  have := loop 6 0 rfl
  rw [show putW (J (p + 1)) 0 (S + R * c) = J (p + 1) from pwH_e _ _ _, up1_id, show (S % 2 ^ (31 * 0) + R % 2 ^ (31 * 0) * c) / 2 ^ (31 * 0) = 0 by simp [Nat.mod_one]] at this
  exact this

theorem r_10_addProduct_0 {X : Ctx} (F : Fx X cX10_addProduct RX10 7 1 0 0) {P O : Nat → Nat → Option Nat} (hP : laP P) {I A : Nat → Nat → Int32} {J : Nat → Nat → Int64} {pl : List Nat} (hB : inB pl) {p : Nat} (hk_p : kC p = 10) (hp_p : p ∈ pl) (hq_p : p + 1 ∈ pl) {q1 : Nat} (hk_q1 : kC q1 = 10) (hp_q1 : q1 ∈ pl) (hq_q1 : q1 + 1 ∈ pl) {q2 : Nat} (hk_q2 : kC q2 = 10) (hp_q2 : q2 ∈ pl) (hq_q2 : q2 + 1 ∈ pl)
    (e_1 : WA X (mC P O I A J) pl 0 0 2 [(0, .ref p), (1, .ref q1), (2, .ref q2), (3, .int 0)] []) :
    WA X (mC P O I A J) pl 0 0 0 [(0, .ref p), (1, .ref q1), (2, .ref q2)] [] := by
  refine a_iconst (v := 0) F dX10_addProduct_0 (by decide) ?_
  refine a_istore_n F dX10_addProduct_1 rfl (by decide) rfl ?_
  refine a_sub [1, 2, 3, 0] rfl ?_
  exact e_1

theorem r_10_addProduct_2 {X : Ctx} (F : Fx X cX10_addProduct RX10 7 1 0 0) {Φ : Option Value → HS → List Nat → Prop} (E : Ex X none 0 0 Φ) {P O : Nat → Nat → Option Nat} (hP : laP P) {I A : Nat → Nat → Int32} {J : Nat → Nat → Int64} {pl : List Nat} (hB : inB pl) {x3 : Int32} {p : Nat} (hk_p : kC p = 10) (hp_p : p ∈ pl) (hq_p : p + 1 ∈ pl) {q1 : Nat} (hk_q1 : kC q1 = 10) (hp_q1 : q1 ∈ pl) (hq_q1 : q1 + 1 ∈ pl) {q2 : Nat} (hk_q2 : kC q2 = 10) (hp_q2 : q2 ∈ pl) (hq_q2 : q2 + 1 ∈ pl)
    (e_1 : (6 ≤ x3) → Φ none (mC P O I A J) pl)
    (e_2 : (¬ (6 ≤ x3)) → WA X (mC P O I A J) pl 0 0 14 [(0, .ref p), (1, .ref q1), (2, .ref q2), (3, .int x3), (4, .long 0), (6, .int 0)] []) :
    WA X (mC P O I A J) pl 0 0 2 [(0, .ref p), (1, .ref q1), (2, .ref q2), (3, .int x3)] [] := by
  refine a_iload_n F 3 dX10_addProduct_2 rfl rfl ?_
  refine a_bipush (v := 6) F dX10_addProduct_3 (by decide) ?_
  refine a_icmp_ge (tgt := 86) F dX10_addProduct_5 (by decide) (fun (c_1 : 6 ≤ x3) => ?_) (fun (c_1 : ¬ (6 ≤ x3)) => ?_)
  · exact a_vret F E dX10_addProduct_86 (Nat.le_refl 0) (Nat.le_refl 0) (e_1 c_1)
  · refine a_lconst (v := 0) F dX10_addProduct_8 (by decide) ?_
    refine a_lstore F dX10_addProduct_9 (by decide) rfl ?_
    refine a_iconst (v := 0) F dX10_addProduct_11 (by decide) ?_
    refine a_istore F dX10_addProduct_12 (by decide) rfl ?_
    refine a_sub [2, 3, 4, 5, 1, 0] rfl ?_
    exact e_2 c_1

theorem r_10_addProduct_14 {X : Ctx} (F : Fx X cX10_addProduct RX10 7 1 0 0) {P O : Nat → Nat → Option Nat} (hP : laP P) {I A : Nat → Nat → Int32} {J : Nat → Nat → Int64} {pl : List Nat} (hB : inB pl) {x3 x6 : Int32} {y4 : Int64} {p : Nat} (hk_p : kC p = 10) (hp_p : p ∈ pl) (hq_p : p + 1 ∈ pl) {q1 : Nat} (hk_q1 : kC q1 = 10) (hp_q1 : q1 ∈ pl) (hq_q1 : q1 + 1 ∈ pl) {q2 : Nat} (hk_q2 : kC q2 = 10) (hp_q2 : q2 ∈ pl) (hq_q2 : q2 + 1 ∈ pl)
    (e_1 : (6 ≤ (x3 + x6)) → WA X (mC P O I A J) pl 0 0 2 [(0, .ref p), (1, .ref q1), (2, .ref q2), (3, .int (x3 + 1))] [])
    (o_2 : (¬ (6 ≤ (x3 + x6))) → vp_in (x3 + x6) 6)
    (o_3 : (¬ (6 ≤ (x3 + x6))) → vp_in x3 6)
    (o_4 : (¬ (6 ≤ (x3 + x6))) → vp_in x6 6)
    (o_5 : (¬ (6 ≤ (x3 + x6))) → vp_in (x3 + x6) 6)
    (e_6 : (¬ (6 ≤ (x3 + x6))) → WA X (mC P O I A (up1 J (p + 1) (vp_updL (J (p + 1)) (x3 + x6).toNatClampNeg ((y4 + ((J (p + 1) (x3 + x6).toNatClampNeg) + ((J (q1 + 1) x3.toNatClampNeg) * (J (q2 + 1) x6.toNatClampNeg)))) &&& 2147483647)))) pl 0 0 14 [(0, .ref p), (1, .ref q1), (2, .ref q2), (3, .int x3), (4, .long ((((y4 + ((J (p + 1) (x3 + x6).toNatClampNeg) + ((J (q1 + 1) x3.toNatClampNeg) * (J (q2 + 1) x6.toNatClampNeg)))) : Int64).toUInt64 >>> ((31 : Int32).toInt64.toUInt64 &&& Int64.toUInt64 63)).toInt64)), (6, .int (x6 + 1))] []) :
    WA X (mC P O I A J) pl 0 0 14 [(0, .ref p), (1, .ref q1), (2, .ref q2), (3, .int x3), (4, .long y4), (6, .int x6)] [] := by
  refine a_iload_n F 3 dX10_addProduct_14 rfl rfl ?_
  refine a_iload F 5 dX10_addProduct_15 rfl ?_
  refine a_iadd F dX10_addProduct_17 ?_
  refine a_bipush (v := 6) F dX10_addProduct_18 (by decide) ?_
  refine a_icmp_ge (tgt := 80) F dX10_addProduct_20 (by decide) (fun (c_2 : 6 ≤ (x3 + x6)) => ?_) (fun (c_2 : ¬ (6 ≤ (x3 + x6))) => ?_)
  · refine a_iinc (v := x3 + 1) F 3 dX10_addProduct_80 rfl rfl (by decide) rfl ?_
    refine a_goto (tgt := 2) F dX10_addProduct_83 (by decide) ?_
    refine a_sub [1, 2, 3, 0] rfl ?_
    exact e_1 c_2
  · refine a_lload F 4 dX10_addProduct_23 rfl ?_
    refine a_aload_n F 0 dX10_addProduct_25 rfl rfl ?_
    refine a_getr (b := (p + 1)) F fl_10_9 rfl (hp_p) hk_p (laP_wh hP hk_p) dX10_addProduct_26 ?_
    refine a_iload_n F 3 dX10_addProduct_29 rfl rfl ?_
    refine a_iload F 5 dX10_addProduct_30 rfl ?_
    refine a_iadd F dX10_addProduct_32 ?_
    refine a_lald F (hq_p) (k_wh hk_p).1 (show vp_in _ (nC (p + 1)) from (k_wh hk_p).2 ▸ o_2 c_2) dX10_addProduct_33 ?_
    refine a_aload_n F 1 dX10_addProduct_34 rfl rfl ?_
    refine a_getr (b := (q1 + 1)) F fl_10_9 rfl (hp_q1) hk_q1 (laP_wh hP hk_q1) dX10_addProduct_35 ?_
    refine a_iload_n F 3 dX10_addProduct_38 rfl rfl ?_
    refine a_lald F (hq_q1) (k_wh hk_q1).1 (show vp_in _ (nC (q1 + 1)) from (k_wh hk_q1).2 ▸ o_3 c_2) dX10_addProduct_39 ?_
    refine a_aload_n F 2 dX10_addProduct_40 rfl rfl ?_
    refine a_getr (b := (q2 + 1)) F fl_10_9 rfl (hp_q2) hk_q2 (laP_wh hP hk_q2) dX10_addProduct_41 ?_
    refine a_iload F 5 dX10_addProduct_44 rfl ?_
    refine a_lald F (hq_q2) (k_wh hk_q2).1 (show vp_in _ (nC (q2 + 1)) from (k_wh hk_q2).2 ▸ o_4 c_2) dX10_addProduct_46 ?_
    refine a_lmul F dX10_addProduct_47 ?_
    refine a_ladd F dX10_addProduct_48 ?_
    refine a_ladd F dX10_addProduct_49 ?_
    refine a_lstore F dX10_addProduct_50 (by decide) rfl ?_
    refine a_aload_n F 1 dX10_addProduct_52 rfl rfl ?_
    refine a_getr (b := (p + 1)) F fl_10_9 rfl (hp_p) hk_p (laP_wh hP hk_p) dX10_addProduct_53 ?_
    refine a_iload_n F 4 dX10_addProduct_56 rfl rfl ?_
    refine a_iload F 5 dX10_addProduct_57 rfl ?_
    refine a_iadd F dX10_addProduct_59 ?_
    refine a_lload F 0 dX10_addProduct_60 rfl ?_
    refine a_ldc2 F kc_10_19 dX10_addProduct_62 ?_
    refine a_land F dX10_addProduct_65 ?_
    refine a_last F (hq_p) (k_wh hk_p).1 (show vp_in _ (nC (p + 1)) from (k_wh hk_p).2 ▸ o_5 c_2) dX10_addProduct_66 ?_
    refine a_lload F 0 dX10_addProduct_67 rfl ?_
    refine a_bipush (v := 31) F dX10_addProduct_69 (by decide) ?_
    refine a_lushr F dX10_addProduct_71 ?_
    refine a_lstore F dX10_addProduct_72 (by decide) rfl ?_
    refine a_iinc (v := x6 + 1) F 5 dX10_addProduct_74 rfl rfl (by decide) rfl ?_
    refine a_goto (tgt := 14) F dX10_addProduct_77 (by decide) ?_
    refine a_sub [2, 3, 4, 5, 1, 0] rfl ?_
    exact e_6 c_2

set_option maxRecDepth 10000 in
theorem c_10_addProduct (l : Launch) {P O : Nat → Nat → Option Nat} (hP : laP P) (I A : Nat → Nat → Int32) (J : Nat → Nat → Int64) {pl : List Nat} (hB : inB pl) (p : Nat) (hk_p : kC p = 10) (hp_p : p ∈ pl) (hq_p : p + 1 ∈ pl) (q1 : Nat) (hk_q1 : kC q1 = 10) (hp_q1 : q1 ∈ pl) (hq_q1 : q1 + 1 ∈ pl) (q2 : Nat) (hk_q2 : kC q2 = 10) (hp_q2 : q2 ∈ pl) (hq_q2 : q2 + 1 ∈ pl) (hn1 : q1 ≠ p) (hn2 : q2 ≠ p) (h1 : digW (J (q1 + 1)) 6) (h2 : digW (J (q2 + 1)) 6) (h3 : digW (J (p + 1)) 6) : Con l 1 yX10_addProduct cX10_addProduct 7 none [.ref p, .ref q1, .ref q2] (mC P O I A J) pl 0 0 (PC none P O I A (up1 J (p + 1) (putW (J (p + 1)) 6 (valW (J (p + 1)) 6 + valW (J (q1 + 1)) 6 * valW (J (q2 + 1)) 6))) pl) := by
  refine Con.of (by decide) (Nat.le_of_ble_eq_true rfl) (fun X hX9 hn9 F E => ?_)
  have hne1 : q1 + 1 ≠ p + 1 := by omega
  have hne2 : q2 + 1 ≠ p + 1 := by omega
  generalize hT : valW (J (p + 1)) 6 = T0 at *
  have hXl := vw_lt _ h1
  generalize hX : valW (J (q1 + 1)) 6 = Xv at *
  generalize hY : valW (J (q2 + 1)) 6 = Y at *
  have dX : ∀ k, k < 6 → J (q1 + 1) k = lN (Xv / 2 ^ (31 * k) % 2 ^ 31) := fun k hk => by rw [← hX]; exact vw_dg _ h1 k hk
  have dY : ∀ k, k < 6 → J (q2 + 1) k = lN (Y / 2 ^ (31 * k) % 2 ^ 31) := fun k hk => by rw [← hY]; exact vw_dg _ h2 k hk
  have outer : ∀ f i, i + f = 6 → WA X (mC P O I A (up1 J (p + 1) (putW (J (p + 1)) 6 (T0 + (Xv % 2 ^ (31 * i)) * Y)))) pl 0 0 2 [(0, .ref p), (1, .ref q1), (2, .ref q2), (3, .int (nI i))] [] := by
    intro f
    induction f with
    | zero =>
      intro i hi
      obtain rfl : i = 6 := by omega
      have h : (6 : Int32) ≤ nI 6 := by decide
      refine r_10_addProduct_2 F E hP hB hk_p hp_p hq_p hk_q1 hp_q1 hq_q1 hk_q2 hp_q2 hq_q2 (fun _ => ?_) (fun z => absurd h z)
      rw [Nat.mod_eq_of_lt hXl]; exact ⟨rfl, rfl, rfl⟩
    | succ f ih =>
      intro i hi
      have h : ¬ (6 : Int32) ≤ nI i := fun z => by have := (nI_gen 6 (by omega) (by omega)).mp z; omega
      refine r_10_addProduct_2 F E hP hB hk_p hp_p hq_p hk_q1 hp_q1 hq_q1 hk_q2 hp_q2 hq_q2 (fun z => absurd z h) (fun _ => ?_)
      have eT : T0 + (Xv % 2 ^ (31 * (i + 1))) * Y = (T0 + (Xv % 2 ^ (31 * i)) * Y) + 2 ^ (31 * i) * (Y * (Xv / 2 ^ (31 * i) % 2 ^ 31)) := by
        rw [mod_p31, Nat.add_mul, ← Nat.add_assoc]; congr 1
        rw [Nat.mul_assoc, Nat.mul_left_comm, Nat.mul_comm Y]
      have ih' := ih (i + 1) (by omega)
      rw [eT] at ih'
      have hx : Xv / 2 ^ (31 * i) % 2 ^ 31 < 2 ^ 31 := Nat.mod_lt _ (by decide)
      have rX : J (q1 + 1) i = lN (Xv / 2 ^ (31 * i) % 2 ^ 31) := dX i (by omega)
      generalize T0 + (Xv % 2 ^ (31 * i)) * Y = T at ih' ⊢
      generalize Xv / 2 ^ (31 * i) % 2 ^ 31 = xi at ih' hx rX eT ⊢
      have inner : ∀ f2 k, i + k + f2 = 6 → WA X (mC P O I A (up1 J (p + 1) (putW (putW (J (p + 1)) 6 T) (i + k) (T + 2 ^ (31 * i) * (Y * xi))))) pl 0 0 14 [(0, .ref p), (1, .ref q1), (2, .ref q2), (3, .int (nI i)), (4, .long (lN ((T / 2 ^ (31 * i) % 2 ^ (31 * k) + (Y % 2 ^ (31 * k)) * xi) / 2 ^ (31 * k)))), (6, .int (nI k))] [] := by
        intro f2
        induction f2 with
        | zero =>
          intro k hk
          have h12 : (6 : Int32) ≤ nI i + nI k := by rw [nI_add, show i + k = 6 by omega]; decide
          refine r_10_addProduct_14 F hP hB hk_p hp_p hq_p hk_q1 hp_q1 hq_q1 hk_q2 hp_q2 hq_q2 (fun _ => ?_) (fun z => absurd h12 z) (fun z => absurd h12 z) (fun z => absurd h12 z) (fun z => absurd h12 z) (fun z => absurd h12 z)
          rw [nI_1, show i + k = 6 by omega, pw_pw (Nat.le_refl _)]
          exact ih'
        | succ f2 ih2 =>
          intro k hk
          have h12 : ¬ (6 : Int32) ≤ nI i + nI k := by rw [nI_add]; exact fun z => by have := (nI_gen 6 (by omega) (by omega)).mp z; omega
          have v12 : vp_in (nI i + nI k) 6 := by rw [nI_add]; exact vp_in_nI (by omega) (by omega)
          refine r_10_addProduct_14 F hP hB hk_p hp_p hq_p hk_q1 hp_q1 hq_q1 hk_q2 hp_q2 hq_q2 (fun z => absurd z h12) (fun _ => v12) (fun _ => vp_in_nI (by omega) (by omega)) (fun _ => vp_in_nI (by omega) (by omega)) (fun _ => v12) (fun _ => ?_)
          have hpos : 0 < 2 ^ (31 * k) := Nat.two_pow_pos _
          have hd1 : T / 2 ^ (31 * i) / 2 ^ (31 * k) % 2 ^ 31 < 2 ^ 31 := Nat.mod_lt _ (by decide)
          have hd2 : Y / 2 ^ (31 * k) % 2 ^ 31 < 2 ^ 31 := Nat.mod_lt _ (by decide)
          have hcar := carry2_lt (S := T / 2 ^ (31 * i)) (R := Y) (c := xi) (M := 2 ^ (31 * k)) hpos
          have hmul : Y / 2 ^ (31 * k) % 2 ^ 31 * xi ≤ 2 ^ 31 * 2 ^ 31 := Nat.mul_le_mul (Nat.le_of_lt hd2) (Nat.le_of_lt hx)
          have er : putW (putW (J (p + 1)) 6 T) (i + k) (T + 2 ^ (31 * i) * (Y * xi)) (i + k) = lN (T / 2 ^ (31 * i) / 2 ^ (31 * k) % 2 ^ 31) := by rw [pw_out (Nat.le_refl _), pw_in (by omega), p31a, Nat.div_div_eq_div_mul]
          have ed : (T / 2 ^ (31 * i) + Y * xi) / 2 ^ (31 * k) = (T + 2 ^ (31 * i) * (Y * xi)) / 2 ^ (31 * (i + k)) := by rw [p31a, ← Nat.div_div_eq_div_mul, Nat.add_mul_div_left _ _ (Nat.two_pow_pos _)]
          rw [nI_add, nI_clamp (show i + k < 2 ^ 31 by omega), nI_clamp (by omega), nI_clamp (by omega), up1_s, up1_p hne1, up1_p hne2, er, rX, dY k (by omega), lN_mul, Nat.mul_comm xi, lN_add, lN_add, ← cs_3 hpos, ← p31, l_full31 (by rw [p31, cs_3 hpos]; omega), l_us31 (by rw [p31, cs_3 hpos]; omega), up1_up1, nI_1]
          rw [p31, cs_4 hpos, Nat.div_div_eq_div_mul, ← p31, ed, pwH_up]
          exact ih2 (k + 1) (by omega)
      have := inner (6 - i) 0 (by omega)
      rw [show i + 0 = i from rfl, show putW (putW (J (p + 1)) 6 T) i (T + 2 ^ (31 * i) * (Y * xi)) = putW (J (p + 1)) 6 T by
        funext j
        rcases Nat.lt_or_ge j i with z | z
        · rw [pw_in z, pw_in (by omega), dw_low z]
        · rw [pw_out z], show (T / 2 ^ (31 * i) % 2 ^ (31 * 0) + Y % 2 ^ (31 * 0) * xi) / 2 ^ (31 * 0) = 0 by simp [Nat.mod_one]] at this
      exact this
  refine r_10_addProduct_0 F hP hB hk_p hp_p hq_p hk_q1 hp_q1 hq_q1 hk_q2 hp_q2 hq_q2 ?_
  have := outer 6 0 rfl
  rw [adp_0 T0 Xv Y, pw_self2 h3 hT, up1_id] at this
  exact this
