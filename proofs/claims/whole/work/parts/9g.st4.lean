def cmpW (x y : Nat) : Int32 := if x < y then -1 else if x = y then 0 else 1
theorem dv_up {x k : Nat} : x / 2 ^ (31 * k) = x / 2 ^ (31 * (k + 1)) * 2 ^ 31 + x / 2 ^ (31 * k) % 2 ^ 31 := by
  rw [p31, ← Nat.div_div_eq_div_mul]; have := Nat.div_add_mod (x / 2 ^ (31 * k)) (2 ^ 31); omega
theorem cmp_d {x y k : Nat} (h : x / 2 ^ (31 * (k + 1)) = y / 2 ^ (31 * (k + 1))) : (x / 2 ^ (31 * k) % 2 ^ 31 = y / 2 ^ (31 * k) % 2 ^ 31 → x / 2 ^ (31 * k) = y / 2 ^ (31 * k)) ∧ (x / 2 ^ (31 * k) % 2 ^ 31 < y / 2 ^ (31 * k) % 2 ^ 31 → x < y) ∧ (y / 2 ^ (31 * k) % 2 ^ 31 < x / 2 ^ (31 * k) % 2 ^ 31 → y < x) := by
  have ex := dv_up (x := x) (k := k)
  have ey := dv_up (x := y) (k := k)
  rw [h] at ex
  refine ⟨fun e => by omega, fun e => ?_, fun e => ?_⟩
  · rcases Nat.lt_or_ge x y with c | c
    · exact c
    · have := Nat.div_le_div_right (c := 2 ^ (31 * k)) c; omega
  · rcases Nat.lt_or_ge y x with c | c
    · exact c
    · have := Nat.div_le_div_right (c := 2 ^ (31 * k)) c; omega

theorem r_8_compareRolls_0 {X : Ctx} (F : Fx X cX8_compareRolls RX8 5 1 0 0) {P O : Nat → Nat → Option Nat} (hP : laP P) {I A : Nat → Nat → Int32} {J : Nat → Nat → Int64} {pl : List Nat} (hB : inB pl) {x1 x3 : Int32} {q0 : Nat} (hk_q0 : kC q0 = 14) (hp_q0 : q0 ∈ pl) {q2 : Nat} (hk_q2 : kC q2 = 14) (hp_q2 : q2 ∈ pl)
    (e_1 : WA X (mC P O I A J) pl 0 0 3 [(0, .ref q0), (1, .int x1), (2, .ref q2), (3, .int x3), (4, .int 5)] []) :
    WA X (mC P O I A J) pl 0 0 0 [(0, .ref q0), (1, .int x1), (2, .ref q2), (3, .int x3)] [] := by
  refine a_iconst (v := 5) F dX8_compareRolls_0 (by decide) ?_
  refine a_istore F dX8_compareRolls_1 (by decide) rfl ?_
  refine a_sub [1, 2, 3, 4, 0] rfl ?_
  exact e_1

theorem r_8_compareRolls_3 {X : Ctx} (F : Fx X cX8_compareRolls RX8 5 1 0 0) {Φ : Option Value → HS → List Nat → Prop} (E : Ex X (some .int) 0 0 Φ) {P O : Nat → Nat → Option Nat} (hP : laP P) {I A : Nat → Nat → Int32} {J : Nat → Nat → Int64} {pl : List Nat} (hB : inB pl) {x1 x3 x4 : Int32} {q0 : Nat} (hk_q0 : kC q0 = 14) (hp_q0 : q0 ∈ pl) {q2 : Nat} (hk_q2 : kC q2 = 14) (hp_q2 : q2 ∈ pl)
    (e_1 : (x4 < 0) → Φ (some (.int 0)) (mC P O I A J) pl)
    (o_2 : (¬ (x4 < 0)) → vp_in (x1 + x4) (nC q0))
    (o_3 : (¬ (x4 < 0)) → vp_in (x3 + x4) (nC q2))
    (e_4 : (¬ (x4 < 0)) → ((lg_cmp (J q0 (x1 + x4).toNatClampNeg) (J q2 (x3 + x4).toNatClampNeg)) = 0) → WA X (mC P O I A J) pl 0 0 3 [(0, .ref q0), (1, .int x1), (2, .ref q2), (3, .int x3), (4, .int (x4 + (-1)))] [])
    (o_5 : (¬ (x4 < 0)) → (¬ ((lg_cmp (J q0 (x1 + x4).toNatClampNeg) (J q2 (x3 + x4).toNatClampNeg)) = 0)) → vp_in (x1 + x4) (nC q0))
    (o_6 : (¬ (x4 < 0)) → (¬ ((lg_cmp (J q0 (x1 + x4).toNatClampNeg) (J q2 (x3 + x4).toNatClampNeg)) = 0)) → vp_in (x3 + x4) (nC q2))
    (e_7 : (¬ (x4 < 0)) → (¬ ((lg_cmp (J q0 (x1 + x4).toNatClampNeg) (J q2 (x3 + x4).toNatClampNeg)) = 0)) → (0 ≤ (lg_cmp (J q0 (x1 + x4).toNatClampNeg) (J q2 (x3 + x4).toNatClampNeg))) → Φ (some (.int 1)) (mC P O I A J) pl)
    (e_8 : (¬ (x4 < 0)) → (¬ ((lg_cmp (J q0 (x1 + x4).toNatClampNeg) (J q2 (x3 + x4).toNatClampNeg)) = 0)) → (¬ (0 ≤ (lg_cmp (J q0 (x1 + x4).toNatClampNeg) (J q2 (x3 + x4).toNatClampNeg)))) → Φ (some (.int (-1))) (mC P O I A J) pl) :
    WA X (mC P O I A J) pl 0 0 3 [(0, .ref q0), (1, .int x1), (2, .ref q2), (3, .int x3), (4, .int x4)] [] := by
  refine a_iload F 4 dX8_compareRolls_3 rfl ?_
  refine a_if_lt (tgt := 52) F dX8_compareRolls_5 (by decide) (fun (c_1 : x4 < 0) => ?_) (fun (c_1 : ¬ (x4 < 0)) => ?_)
  · refine a_iconst (v := 0) F dX8_compareRolls_52 (by decide) ?_
    exact a_iret F E dX8_compareRolls_53 (Nat.le_refl 0) (Nat.le_refl 0) (e_1 c_1)
  · refine a_aload_n F 0 dX8_compareRolls_8 rfl rfl ?_
    refine a_iload_n F 1 dX8_compareRolls_9 rfl rfl ?_
    refine a_iload F 4 dX8_compareRolls_10 rfl ?_
    refine a_iadd F dX8_compareRolls_12 ?_
    refine a_lald F (hp_q0) hk_q0 (o_2 c_1) dX8_compareRolls_13 ?_
    refine a_aload_n F 2 dX8_compareRolls_14 rfl rfl ?_
    refine a_iload_n F 3 dX8_compareRolls_15 rfl rfl ?_
    refine a_iload F 4 dX8_compareRolls_16 rfl ?_
    refine a_iadd F dX8_compareRolls_18 ?_
    refine a_lald F (hp_q2) hk_q2 (o_3 c_1) dX8_compareRolls_19 ?_
    refine a_lcmp F dX8_compareRolls_20 ?_
    refine a_if_eq (tgt := 46) F dX8_compareRolls_21 (by decide) (fun (c_2 : (lg_cmp (J q0 (x1 + x4).toNatClampNeg) (J q2 (x3 + x4).toNatClampNeg)) = 0) => ?_) (fun (c_2 : ¬ ((lg_cmp (J q0 (x1 + x4).toNatClampNeg) (J q2 (x3 + x4).toNatClampNeg)) = 0)) => ?_)
    · refine a_iinc (v := x4 + (-1)) F 4 dX8_compareRolls_46 rfl rfl (by decide) rfl ?_
      refine a_goto (tgt := 3) F dX8_compareRolls_49 (by decide) ?_
      refine a_sub [1, 2, 3, 4, 0] rfl ?_
      exact e_4 c_1 c_2
    · refine a_aload_n F 0 dX8_compareRolls_24 rfl rfl ?_
      refine a_iload_n F 1 dX8_compareRolls_25 rfl rfl ?_
      refine a_iload F 4 dX8_compareRolls_26 rfl ?_
      refine a_iadd F dX8_compareRolls_28 ?_
      refine a_lald F (hp_q0) hk_q0 (o_5 c_1 c_2) dX8_compareRolls_29 ?_
      refine a_aload_n F 2 dX8_compareRolls_30 rfl rfl ?_
      refine a_iload_n F 3 dX8_compareRolls_31 rfl rfl ?_
      refine a_iload F 4 dX8_compareRolls_32 rfl ?_
      refine a_iadd F dX8_compareRolls_34 ?_
      refine a_lald F (hp_q2) hk_q2 (o_6 c_1 c_2) dX8_compareRolls_35 ?_
      refine a_lcmp F dX8_compareRolls_36 ?_
      refine a_if_ge (tgt := 44) F dX8_compareRolls_37 (by decide) (fun (c_3 : 0 ≤ (lg_cmp (J q0 (x1 + x4).toNatClampNeg) (J q2 (x3 + x4).toNatClampNeg))) => ?_) (fun (c_3 : ¬ (0 ≤ (lg_cmp (J q0 (x1 + x4).toNatClampNeg) (J q2 (x3 + x4).toNatClampNeg)))) => ?_)
      · refine a_iconst (v := 1) F dX8_compareRolls_44 (by decide) ?_
        exact a_iret F E dX8_compareRolls_45 (Nat.le_refl 0) (Nat.le_refl 0) (e_7 c_1 c_2 c_3)
      · refine a_iconst (v := (-1)) F dX8_compareRolls_40 (by decide) ?_
        refine a_goto (tgt := 45) F dX8_compareRolls_41 (by decide) ?_
        exact a_iret F E dX8_compareRolls_45 (Nat.le_refl 0) (Nat.le_refl 0) (e_8 c_1 c_2 c_3)

set_option maxRecDepth 100000 in
theorem c_8_compareRolls (l : Launch) {P O : Nat → Nat → Option Nat} (hP : laP P) (I A : Nat → Nat → Int32) (J : Nat → Nat → Int64) {pl : List Nat} (hB : inB pl) (q0 : Nat) (hk_q0 : kC q0 = 14) (hp_q0 : q0 ∈ pl) (q2 : Nat) (hk_q2 : kC q2 = 14) (hp_q2 : q2 ∈ pl) (a b : Nat) (hn0 : nC q0 ≤ 10000) (hn2 : nC q2 ≤ 10000) (ha : a + 6 ≤ nC q0) (hb : b + 6 ≤ nC q2) (h1 : digW (fun k => J q0 (a + k)) 6) (h2 : digW (fun k => J q2 (b + k)) 6) : Con l 1 yX8_compareRolls cX8_compareRolls 5 (some .int) [.ref q0, .int (nI a), .ref q2, .int (nI b)] (mC P O I A J) pl 0 0 (PC (some (.int (cmpW (valW (fun k => J q0 (a + k)) 6) (valW (fun k => J q2 (b + k)) 6)))) P O I A J pl) := by
  refine Con.of (by decide) (Nat.le_of_ble_eq_true rfl) (fun X hX9 hn9 F E => ?_)
  have hx := vw_lt _ h1
  have hy := vw_lt _ h2
  generalize hX : valW (fun k => J q0 (a + k)) 6 = x at *
  generalize hY : valW (fun k => J q2 (b + k)) 6 = y at *
  have dX : ∀ k, k < 6 → J q0 (a + k) = lN (x / 2 ^ (31 * k) % 2 ^ 31) := fun k hk => by rw [← hX]; exact vw_dg _ h1 k hk
  have dY : ∀ k, k < 6 → J q2 (b + k) = lN (y / 2 ^ (31 * k) % 2 ^ 31) := fun k hk => by rw [← hY]; exact vw_dg _ h2 k hk
  have lp : ∀ k, k ≤ 6 → x / 2 ^ (31 * k) = y / 2 ^ (31 * k) → WA X (mC P O I A J) pl 0 0 3 [(0, .ref q0), (1, .int (nI a)), (2, .ref q2), (3, .int (nI b)), (4, .int (nI k + (-1)))] [] := by
    intro k
    induction k with
    | zero =>
      intro _ h
      have h0 : nI 0 + (-1) < 0 := by decide
      rw [Nat.mul_zero, Nat.pow_zero, Nat.div_one, Nat.div_one] at h
      refine r_8_compareRolls_3 F E hP hB hk_q0 hp_q0 hk_q2 hp_q2 (fun _ => ?_) (fun z => absurd h0 z) (fun z => absurd h0 z) (fun z => absurd h0 z) (fun z => absurd h0 z) (fun z => absurd h0 z) (fun z => absurd h0 z) (fun z => absurd h0 z)
      unfold cmpW; rw [if_neg (by omega), if_pos h]; exact ⟨rfl, rfl, rfl⟩
    | succ k ih =>
      intro hk h
      rw [nI_m1]
      have h0 : ¬ nI k < 0 := nI_pos (by omega)
      have hdx : x / 2 ^ (31 * k) % 2 ^ 31 < 2 ^ 31 := Nat.mod_lt _ (by decide)
      have hdy : y / 2 ^ (31 * k) % 2 ^ 31 < 2 ^ 31 := Nat.mod_lt _ (by decide)
      obtain ⟨g1, g2, g3⟩ := cmp_d h
      have ea : J q0 (nI a + nI k).toNatClampNeg = lN (x / 2 ^ (31 * k) % 2 ^ 31) := by rw [nI_add, nI_clamp (by omega)]; exact dX k (by omega)
      have eb : J q2 (nI b + nI k).toNatClampNeg = lN (y / 2 ^ (31 * k) % 2 ^ 31) := by rw [nI_add, nI_clamp (by omega)]; exact dY k (by omega)
      have va : vp_in (nI a + nI k) (nC q0) := by rw [nI_add]; exact vp_in_nI (by omega) (by omega)
      have vb : vp_in (nI b + nI k) (nC q2) := by rw [nI_add]; exact vp_in_nI (by omega) (by omega)
      have ceq : lg_cmp (J q0 (nI a + nI k).toNatClampNeg) (J q2 (nI b + nI k).toNatClampNeg) = 0 ↔ x / 2 ^ (31 * k) % 2 ^ 31 = y / 2 ^ (31 * k) % 2 ^ 31 := by rw [lg_cmp_eq, ea, eb]; exact pk_lEQ (by omega) (by omega)
      have cge : 0 ≤ lg_cmp (J q0 (nI a + nI k).toNatClampNeg) (J q2 (nI b + nI k).toNatClampNeg) ↔ y / 2 ^ (31 * k) % 2 ^ 31 ≤ x / 2 ^ (31 * k) % 2 ^ 31 := by rw [lg_cmp_ge, ea, eb]; exact pk_lLE (by omega) (by omega)
      refine r_8_compareRolls_3 F E hP hB hk_q0 hp_q0 hk_q2 hp_q2 (fun z => absurd z h0) (fun _ => va) (fun _ => vb) (fun _ z => ih (by omega) (g1 (ceq.mp z))) (fun _ _ => va) (fun _ _ => vb) (fun _ z w => ?_) (fun _ z w => ?_)
      · have z := (not_congr ceq).mp z
        have w := cge.mp w
        have := g3 (by omega)
        unfold cmpW; rw [if_neg (by omega), if_neg (by omega)]; exact ⟨rfl, rfl, rfl⟩
      · have w := (not_congr cge).mp w
        have := g2 (by omega)
        unfold cmpW; rw [if_pos (by omega)]; exact ⟨rfl, rfl, rfl⟩
  refine r_8_compareRolls_0 F hP hB hk_q0 hp_q0 hk_q2 hp_q2 ?_
  exact lp 6 (Nat.le_refl _) (by rw [Nat.div_eq_of_lt hx, Nat.div_eq_of_lt hy])
