/-! the same three methods, looking at their own object's link alone -/
theorem r_J7_fill_d0a16_0W {X : Ctx} (F : Fx X cJ7_fill_d0a16 RJ7 5 1 0 0) {P O : Nat → Nat → Option Nat} {I A : Nat → Nat → Int32} {J : Nat → Nat → Int64} {pl : List Nat} {y1 : Int64} {q0 : Nat} (hk_q0 : kC q0 = 14) (hp_q0 : q0 ∈ pl)
    (e_1 : WA X (mC P O I A J) pl 0 0 6 [(0, .ref q0), (1, .long y1), (3, .int 0), (4, .int (Int32.ofNat (nC q0)))] []) :
    WA X (mC P O I A J) pl 0 0 0 [(0, .ref q0), (1, .long y1)] [] := by
  refine a_iconst (v := 0) F dJ7_fill_d0a16_0 (by decide) ?_
  refine a_istore_n F dJ7_fill_d0a16_1 rfl (by decide) rfl ?_
  refine a_aload_n F 1 dJ7_fill_d0a16_2 rfl rfl ?_
  refine a_alen (v := Int32.ofNat (nC q0)) F (hp_q0) hk_q0 (by decide) (by decide) rfl dJ7_fill_d0a16_3 ?_
  refine a_istore F dJ7_fill_d0a16_4 (by decide) rfl ?_
  refine a_sub [2, 3, 1, 0] rfl ?_
  exact e_1

theorem r_J7_fill_d0a16_6W {X : Ctx} (F : Fx X cJ7_fill_d0a16 RJ7 5 1 0 0) {Φ : Option Value → HS → List Nat → Prop} (E : Ex X none 0 0 Φ) {P O : Nat → Nat → Option Nat} {I A : Nat → Nat → Int32} {J : Nat → Nat → Int64} {pl : List Nat} {x3 x4 : Int32} {y1 : Int64} {q0 : Nat} (hk_q0 : kC q0 = 14) (hp_q0 : q0 ∈ pl)
    (e_1 : (x4 ≤ x3) → Φ none (mC P O I A J) pl)
    (o_2 : (¬ (x4 ≤ x3)) → vp_in x3 (nC q0))
    (e_3 : (¬ (x4 ≤ x3)) → WA X (mC P O I A (up1 J q0 (vp_updL (J q0) x3.toNatClampNeg y1))) pl 0 0 6 [(0, .ref q0), (1, .long y1), (3, .int (x3 + 1)), (4, .int x4)] []) :
    WA X (mC P O I A J) pl 0 0 6 [(0, .ref q0), (1, .long y1), (3, .int x3), (4, .int x4)] [] := by
  refine a_iload_n F 2 dJ7_fill_d0a16_6 rfl rfl ?_
  refine a_iload F 3 dJ7_fill_d0a16_7 rfl ?_
  refine a_icmp_ge (tgt := 22) F dJ7_fill_d0a16_9 (by decide) (fun (c_1 : x4 ≤ x3) => ?_) (fun (c_1 : ¬ (x4 ≤ x3)) => ?_)
  · exact a_vret F E dJ7_fill_d0a16_22 (Nat.le_refl 0) (Nat.le_refl 0) (e_1 c_1)
  · refine a_aload_n F 0 dJ7_fill_d0a16_12 rfl rfl ?_
    refine a_iload_n F 2 dJ7_fill_d0a16_13 rfl rfl ?_
    refine a_lload_n F 1 dJ7_fill_d0a16_14 rfl rfl ?_
    refine a_last F (hp_q0) hk_q0 (o_2 c_1) dJ7_fill_d0a16_15 ?_
    refine a_iinc (v := x3 + 1) F 2 dJ7_fill_d0a16_16 rfl rfl (by decide) rfl ?_
    refine a_goto (tgt := 6) F dJ7_fill_d0a16_19 (by decide) ?_
    refine a_sub [1, 2, 0, 3] rfl ?_
    exact e_3 c_1

set_option maxRecDepth 10000 in
theorem c_J7_fill_d0a16W (l : Launch) {P O : Nat → Nat → Option Nat} (I A : Nat → Nat → Int32) (J : Nat → Nat → Int64) {pl : List Nat} (q0 : Nat) (hk_q0 : kC q0 = 14) (hp_q0 : q0 ∈ pl) (v : Int64) (hn : nC q0 ≤ 5000) : Con l 1 yJ7_fill_d0a16 cJ7_fill_d0a16 5 none [.ref q0, .long v] (mC P O I A J) pl 0 0 (PC none P O I A (up1 J q0 (fillF (J q0) (nC q0) (fun _ => v))) pl) := by
  refine Con.of (by decide) (Nat.le_of_ble_eq_true rfl) (fun X hX9 hn9 F E => ?_)
  have lp : ∀ f k, k + f = nC q0 → WA X (mC P O I A (up1 J q0 (fillF (J q0) k (fun _ => v)))) pl 0 0 6 [(0, .ref q0), (1, .long v), (3, .int (nI k)), (4, .int (Int32.ofNat (nC q0)))] [] := by
    intro f
    induction f with
    | zero =>
      intro k hk
      obtain rfl : k = nC q0 := by omega
      have h : Int32.ofNat (nC q0) ≤ nI (nC q0) := (nI_leI (a := nC q0) (b := nC q0) (by omega) (by omega)).mpr (Nat.le_refl _)
      exact r_J7_fill_d0a16_6W F E  hk_q0 hp_q0 (fun _ => ⟨rfl, rfl, rfl⟩) (fun z => absurd h z) (fun z => absurd h z)
    | succ f ih =>
      intro k hk
      have h : ¬ Int32.ofNat (nC q0) ≤ nI k := fun z => by have := (nI_leI (a := nC q0) (b := k) (by omega) (by omega)).mp z; omega
      refine r_J7_fill_d0a16_6W F E  hk_q0 hp_q0 (fun z => absurd z h) (fun _ => vp_in_nI (by omega) (by omega)) (fun _ => ?_)
      rw [up1_up1, up1_s, nI_clamp (by omega), nI_1, show vp_updL (fillF (J q0) k (fun _ => v)) k v = fillF (J q0) (k + 1) (fun _ => v) by
        funext j; simp only [fillF, vp_updL]
        by_cases c : j = k
        · rw [if_pos c, if_pos (by omega)]
        · rw [if_neg c]
          by_cases c2 : j < k
          · rw [if_pos c2, if_pos (by omega)]
          · rw [if_neg c2, if_neg (by omega)]]
      exact ih (k + 1) (by omega)
  have := lp (nC q0) 0 (Nat.zero_add _)
  rw [show fillF (J q0) 0 (fun _ => v) = J q0 by funext j; unfold fillF; rw [if_neg (by omega)], up1_id] at this
  exact r_J7_fill_d0a16_0W F  hk_q0 hp_q0 this

theorem r_10_multiply_0W {X : Ctx} (F : Fx X cX10_multiply RX10 5 1 0 0) {P O : Nat → Nat → Option Nat} {I A : Nat → Nat → Int32} {J : Nat → Nat → Int64} {pl : List Nat} {x1 : Int32} {p : Nat} (hk_p : kC p = 10) (hp_p : p ∈ pl) (hq_p : p + 1 ∈ pl) (hP : P p 0 = some (p + 1))
    (e_1 : WA X (mC P O I A J) pl 0 0 5 [(0, .ref p), (1, .int x1), (2, .long 0), (4, .int 0)] []) :
    WA X (mC P O I A J) pl 0 0 0 [(0, .ref p), (1, .int x1)] [] := by
  refine a_lconst (v := 0) F dX10_multiply_0 (by decide) ?_
  refine a_lstore_n F dX10_multiply_1 rfl (by decide) rfl ?_
  refine a_iconst (v := 0) F dX10_multiply_2 (by decide) ?_
  refine a_istore F dX10_multiply_3 (by decide) rfl ?_
  refine a_sub [2, 3, 1, 0] rfl ?_
  exact e_1

theorem r_10_multiply_5W {X : Ctx} (F : Fx X cX10_multiply RX10 5 1 0 0) {Φ : Option Value → HS → List Nat → Prop} (E : Ex X none 0 0 Φ) {P O : Nat → Nat → Option Nat} {I A : Nat → Nat → Int32} {J : Nat → Nat → Int64} {pl : List Nat} {x1 x4 : Int32} {y2 : Int64} {p : Nat} (hk_p : kC p = 10) (hp_p : p ∈ pl) (hq_p : p + 1 ∈ pl) (hP : P p 0 = some (p + 1))
    (e_1 : (6 ≤ x4) → Φ none (mC P O I A J) pl)
    (o_2 : (¬ (6 ≤ x4)) → vp_in x4 6)
    (o_3 : (¬ (6 ≤ x4)) → vp_in x4 6)
    (e_4 : (¬ (6 ≤ x4)) → WA X (mC P O I A (up1 J (p + 1) (vp_updL (J (p + 1)) x4.toNatClampNeg ((y2 + ((J (p + 1) x4.toNatClampNeg) * ((x1 : Int32).toInt64))) &&& 2147483647)))) pl 0 0 5 [(0, .ref p), (1, .int x1), (2, .long ((((y2 + ((J (p + 1) x4.toNatClampNeg) * ((x1 : Int32).toInt64))) : Int64).toUInt64 >>> ((31 : Int32).toInt64.toUInt64 &&& Int64.toUInt64 63)).toInt64)), (4, .int (x4 + 1))] []) :
    WA X (mC P O I A J) pl 0 0 5 [(0, .ref p), (1, .int x1), (2, .long y2), (4, .int x4)] [] := by
  refine a_iload F 3 dX10_multiply_5 rfl ?_
  refine a_bipush (v := 6) F dX10_multiply_7 (by decide) ?_
  refine a_icmp_ge (tgt := 48) F dX10_multiply_9 (by decide) (fun (c_1 : 6 ≤ x4) => ?_) (fun (c_1 : ¬ (6 ≤ x4)) => ?_)
  · exact a_vret F E dX10_multiply_48 (Nat.le_refl 0) (Nat.le_refl 0) (e_1 c_1)
  · refine a_lload_n F 2 dX10_multiply_12 rfl rfl ?_
    refine a_aload_n F 0 dX10_multiply_13 rfl rfl ?_
    refine a_getr (b := (p + 1)) F fl_10_9 rfl (hp_p) hk_p (hP) dX10_multiply_14 ?_
    refine a_iload F 3 dX10_multiply_17 rfl ?_
    refine a_lald F (hq_p) (k_wh hk_p).1 (show vp_in _ (nC (p + 1)) from (k_wh hk_p).2 ▸ o_2 c_1) dX10_multiply_19 ?_
    refine a_iload_n F 1 dX10_multiply_20 rfl rfl ?_
    refine a_i2l F dX10_multiply_21 ?_
    refine a_lmul F dX10_multiply_22 ?_
    refine a_ladd F dX10_multiply_23 ?_
    refine a_lstore_n F dX10_multiply_24 rfl (by decide) rfl ?_
    refine a_aload_n F 1 dX10_multiply_25 rfl rfl ?_
    refine a_getr (b := (p + 1)) F fl_10_9 rfl (hp_p) hk_p (hP) dX10_multiply_26 ?_
    refine a_iload F 3 dX10_multiply_29 rfl ?_
    refine a_lload_n F 0 dX10_multiply_31 rfl rfl ?_
    refine a_ldc2 F kc_10_19 dX10_multiply_32 ?_
    refine a_land F dX10_multiply_35 ?_
    refine a_last F (hq_p) (k_wh hk_p).1 (show vp_in _ (nC (p + 1)) from (k_wh hk_p).2 ▸ o_3 c_1) dX10_multiply_36 ?_
    refine a_lload_n F 0 dX10_multiply_37 rfl rfl ?_
    refine a_bipush (v := 31) F dX10_multiply_38 (by decide) ?_
    refine a_lushr F dX10_multiply_40 ?_
    refine a_lstore_n F dX10_multiply_41 rfl (by decide) rfl ?_
    refine a_iinc (v := x4 + 1) F 3 dX10_multiply_42 rfl rfl (by decide) rfl ?_
    refine a_goto (tgt := 5) F dX10_multiply_45 (by decide) ?_
    refine a_sub [2, 3, 1, 0] rfl ?_
    exact e_4 c_1

set_option maxRecDepth 10000 in
theorem c_10_multiplyW (l : Launch) {P O : Nat → Nat → Option Nat} (I A : Nat → Nat → Int32) (J : Nat → Nat → Int64) {pl : List Nat} (p : Nat) (hk_p : kC p = 10) (hp_p : p ∈ pl) (hq_p : p + 1 ∈ pl) (hP : P p 0 = some (p + 1)) (c : Nat) (hd : digW (J (p + 1)) 6) (hc0 : 0 < c) (hc : c ≤ 64) : Con l 1 yX10_multiply cX10_multiply 5 none [.ref p, .int (nI c)] (mC P O I A J) pl 0 0 (PC none P O I A (up1 J (p + 1) (putW (J (p + 1)) 6 (valW (J (p + 1)) 6 * c))) pl) := by
  refine Con.of (by decide) (Nat.le_of_ble_eq_true rfl) (fun X hX9 hn9 F E => ?_)
  refine r_10_multiply_0W F hk_p hp_p hq_p hP ?_
  generalize hv : valW (J (p + 1)) 6 = v at *
  have dg : ∀ k, k < 6 → J (p + 1) k = lN (v / 2 ^ (31 * k) % 2 ^ 31) := fun k hk => by rw [← hv]; exact vw_dg _ hd k hk
  have loop : ∀ f k, k + f = 6 → WA X (mC P O I A (up1 J (p + 1) (putW (J (p + 1)) k (v * c)))) pl 0 0 5 [(0, .ref p), (1, .int (nI c)), (2, .long (lN ((v % 2 ^ (31 * k)) * c / 2 ^ (31 * k)))), (4, .int (nI k))] [] := by
    intro f
    induction f with
    | zero =>
      intro k hk2
      obtain rfl : k = 6 := by omega
      have h : (6 : Int32) ≤ nI 6 := by decide
      exact r_10_multiply_5W F E hk_p hp_p hq_p hP (fun _ => ⟨rfl, rfl, rfl⟩) (fun z => absurd h z) (fun z => absurd h z) (fun z => absurd h z)
    | succ f ih =>
      intro k hk2
      have h : ¬ (6 : Int32) ≤ nI k := fun z => by have := (nI_gen 6 (by omega) (by omega)).mp z; omega
      refine r_10_multiply_5W F E hk_p hp_p hq_p hP (fun z => absurd z h) (fun _ => vp_in_nI (by omega) (by omega)) (fun _ => vp_in_nI (by omega) (by omega)) (fun _ => ?_)
      have hpos : 0 < 2 ^ (31 * k) := Nat.two_pow_pos _
      have hdlt : v / 2 ^ (31 * k) % 2 ^ 31 < 2 ^ 31 := Nat.mod_lt _ (by decide)
      have hcar := carry_lt (v := v) (M := 2 ^ (31 * k)) hpos hc0
      have hmul : v / 2 ^ (31 * k) % 2 ^ 31 * c ≤ 2 ^ 31 * 64 := Nat.mul_le_mul (Nat.le_of_lt hdlt) hc
      have er : putW (J (p + 1)) k (v * c) k = lN (v / 2 ^ (31 * k) % 2 ^ 31) := by rw [pw_out (Nat.le_refl _)]; exact dg k (by omega)
      rw [nI_clamp (show k < 2 ^ 31 by omega), up1_s, er, nI_l (by omega), lN_mul, lN_add, ← cs_1 hpos, ← p31, l_full31 (by rw [p31, cs_1 hpos]; omega), l_us31 (by rw [p31, cs_1 hpos]; omega), up1_up1, nI_1]
      rw [p31, cs_2 hpos, pwH_up, Nat.div_div_eq_div_mul, ← p31]
      exact ih (k + 1) (by omega)
  have := loop 6 0 (by omega)
  rw [show putW (J (p + 1)) 0 (v * c) = J (p + 1) from pwH_e _ _ _, up1_id, show v % 2 ^ (31 * 0) * c / 2 ^ (31 * 0) = 0 by simp [Nat.mod_one]] at this
  exact this

theorem r_10_set_0W {X : Ctx} (F : Fx X cX10_set RX10 3 2 0 0) {Φ : Option Value → HS → List Nat → Prop} (E : Ex X none 0 0 Φ) {P O : Nat → Nat → Option Nat} {I A : Nat → Nat → Int32} {J : Nat → Nat → Int64} {pl : List Nat} {y1 : Int64} {p : Nat} (hk_p : kC p = 10) (hp_p : p ∈ pl) (hq_p : p + 1 ∈ pl) (hP : P p 0 = some (p + 1))
    (o_1 : nC (p + 1) ≤ 5000)
    (o_2 : vp_in 0 6)
    (o_3 : vp_in 1 6)
    (o_4 : vp_in 2 6)
    (e_5 : Φ none (mC P O I A (up1 (up1 (up1 (up1 J (p + 1) (fillF (J (p + 1)) (nC (p + 1)) (fun _ => (0 : Int64)))) (p + 1) (vp_updL ((up1 J (p + 1) (fillF (J (p + 1)) (nC (p + 1)) (fun _ => (0 : Int64)))) (p + 1)) 0 (y1 &&& 2147483647))) (p + 1) (vp_updL ((up1 (up1 J (p + 1) (fillF (J (p + 1)) (nC (p + 1)) (fun _ => (0 : Int64)))) (p + 1) (vp_updL ((up1 J (p + 1) (fillF (J (p + 1)) (nC (p + 1)) (fun _ => (0 : Int64)))) (p + 1)) 0 (y1 &&& 2147483647))) (p + 1)) 1 ((((y1 : Int64).toUInt64 >>> ((31 : Int32).toInt64.toUInt64 &&& Int64.toUInt64 63)).toInt64) &&& 2147483647))) (p + 1) (vp_updL ((up1 (up1 (up1 J (p + 1) (fillF (J (p + 1)) (nC (p + 1)) (fun _ => (0 : Int64)))) (p + 1) (vp_updL ((up1 J (p + 1) (fillF (J (p + 1)) (nC (p + 1)) (fun _ => (0 : Int64)))) (p + 1)) 0 (y1 &&& 2147483647))) (p + 1) (vp_updL ((up1 (up1 J (p + 1) (fillF (J (p + 1)) (nC (p + 1)) (fun _ => (0 : Int64)))) (p + 1) (vp_updL ((up1 J (p + 1) (fillF (J (p + 1)) (nC (p + 1)) (fun _ => (0 : Int64)))) (p + 1)) 0 (y1 &&& 2147483647))) (p + 1)) 1 ((((y1 : Int64).toUInt64 >>> ((31 : Int32).toInt64.toUInt64 &&& Int64.toUInt64 63)).toInt64) &&& 2147483647))) (p + 1)) 2 (((y1 : Int64).toUInt64 >>> ((62 : Int32).toInt64.toUInt64 &&& Int64.toUInt64 63)).toInt64)))) pl) :
    WA X (mC P O I A J) pl 0 0 0 [(0, .ref p), (1, .long y1)] [] := by
  refine a_aload_n F 0 dX10_set_0 rfl rfl ?_
  refine a_getr (b := (p + 1)) F fl_10_9 rfl (hp_p) hk_p (hP) dX10_set_1 ?_
  refine a_lconst (v := 0) F dX10_set_4 (by decide) ?_
  refine a_callS (As := [.ref (p + 1), .long 0]) (st := []) F (c_J7_fill_d0a16W (xl X) I A J (p + 1) (k_wh hk_p).1 (hq_p) (0 : Int64) (o_1)) ml_10_13 sm_yJ7_fill_d0a16 (by decide) rfl dX10_set_5 (by decide) (Nat.le_refl 0) (Nat.le_refl 0) (hl_r (hp_p) (hl_l hl_nil)) hs_nil ?_
  rintro _ _ _ ⟨rfl, rfl, rfl⟩ _
  show WA X (mC P O I A (up1 J (p + 1) (fillF (J (p + 1)) (nC (p + 1)) (fun _ => (0 : Int64))))) pl 0 0 8 [(0, .ref p), (1, .long y1)] []
  refine a_aload_n F 0 dX10_set_8 rfl rfl ?_
  refine a_getr (b := (p + 1)) F fl_10_9 rfl (hp_p) hk_p (hP) dX10_set_9 ?_
  refine a_iconst (v := 0) F dX10_set_12 (by decide) ?_
  refine a_lload_n F 1 dX10_set_13 rfl rfl ?_
  refine a_ldc2 F kc_10_19 dX10_set_14 ?_
  refine a_land F dX10_set_17 ?_
  refine a_last F (hq_p) (k_wh hk_p).1 (show vp_in _ (nC (p + 1)) from (k_wh hk_p).2 ▸ o_2) dX10_set_18 ?_
  refine a_aload_n F 0 dX10_set_19 rfl rfl ?_
  refine a_getr (b := (p + 1)) F fl_10_9 rfl (hp_p) hk_p (hP) dX10_set_20 ?_
  refine a_iconst (v := 1) F dX10_set_23 (by decide) ?_
  refine a_lload_n F 1 dX10_set_24 rfl rfl ?_
  refine a_bipush (v := 31) F dX10_set_25 (by decide) ?_
  refine a_lushr F dX10_set_27 ?_
  refine a_ldc2 F kc_10_19 dX10_set_28 ?_
  refine a_land F dX10_set_31 ?_
  refine a_last F (hq_p) (k_wh hk_p).1 (show vp_in _ (nC (p + 1)) from (k_wh hk_p).2 ▸ o_3) dX10_set_32 ?_
  refine a_aload_n F 0 dX10_set_33 rfl rfl ?_
  refine a_getr (b := (p + 1)) F fl_10_9 rfl (hp_p) hk_p (hP) dX10_set_34 ?_
  refine a_iconst (v := 2) F dX10_set_37 (by decide) ?_
  refine a_lload_n F 1 dX10_set_38 rfl rfl ?_
  refine a_bipush (v := 62) F dX10_set_39 (by decide) ?_
  refine a_lushr F dX10_set_41 ?_
  refine a_last F (hq_p) (k_wh hk_p).1 (show vp_in _ (nC (p + 1)) from (k_wh hk_p).2 ▸ o_4) dX10_set_42 ?_
  exact a_vret F E dX10_set_43 (Nat.le_refl 0) (Nat.le_refl 0) (e_5)

set_option maxRecDepth 10000 in
theorem c_10_setW (l : Launch) {P O : Nat → Nat → Option Nat} (I A : Nat → Nat → Int32) (J : Nat → Nat → Int64) {pl : List Nat} (p : Nat) (hk_p : kC p = 10) (hp_p : p ∈ pl) (hq_p : p + 1 ∈ pl) (hP : P p 0 = some (p + 1)) (v : Nat) (hv : v < 2 ^ 63) : Con l 2 yX10_set cX10_set 3 none [.ref p, .long (lN v)] (mC P O I A J) pl 0 0 (PC none P O I A (up1 J (p + 1) (putW (J (p + 1)) 6 v)) pl) := by
  refine Con.of (by decide) (Nat.le_of_ble_eq_true rfl) (fun X hX9 hn9 F E => ?_)
  refine r_10_set_0W F E hk_p hp_p hq_p hP (by rw [(k_wh hk_p).2]; omega) (vp_in_nI (n := 0) (by omega) (by omega)) (vp_in_nI (n := 1) (by omega) (by omega)) (vp_in_nI (n := 2) (by omega) (by omega)) ?_
  have v64 : v < 2 ^ 64 := by omega
  rw [l_full31 v64, l_us31 v64, l_us62 v64, l_full31 (by omega), (k_wh hk_p).2]
  simp only [up1_up1, up1_s]
  rw [set_row _ hv]
  exact ⟨rfl, rfl, rfl⟩

