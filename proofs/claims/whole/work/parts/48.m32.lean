theorem val_s {r : Nat → Int32} {n d : Nat} (h : r n = nI d) (hd : d < 2 ^ 28) : valR r (n + 1) = valR r n + d * 2 ^ (28 * n) := by simp only [valR]; rw [h, nI_clamp (by omega)]
theorem ag_val {x y : Nat → Int32} : ∀ n, digV x n → digV y n → (agS x y n = 0 ↔ valR x n = valR y n) ∧ (agS x y n ≤ 0 ↔ valR x n ≤ valR y n)
  | 0, _, _ => ⟨⟨fun _ => rfl, fun _ => rfl⟩, ⟨fun _ => Nat.le_refl _, fun _ => (by decide : (0 : Int32) ≤ 0)⟩⟩
  | n + 1, hx, hy => by
    have ih := ag_val n (fun k hk => hx k (by omega)) (fun k hk => hy k (by omega))
    have lx := val_lt n (fun k hk => hx k (by omega)); have ly := val_lt n (fun k hk => hy k (by omega))
    obtain ⟨d, hd, e⟩ := hx n (by omega); obtain ⟨d', hd', e'⟩ := hy n (by omega)
    rw [val_s e hd, val_s e' hd']
    simp only [agS]; rw [e, e']
    rcases Nat.lt_trichotomy d d' with c | c | c
    · have h2 := pk_sneg (a := d) (b := d') (by omega) c
      have h3 : ¬ nI d - nI d' = 0 := fun z => by rw [z] at h2; exact absurd h2 (by decide)
      have h4 : (d + 1) * 2 ^ (28 * n) ≤ d' * 2 ^ (28 * n) := Nat.mul_le_mul_right _ c
      rw [Nat.add_mul, Nat.one_mul] at h4
      rw [if_neg h3]
      exact ⟨⟨fun z => absurd z h3, fun z => by omega⟩, ⟨fun _ => by omega, fun _ => Int32.le_of_lt h2⟩⟩
    · rw [c, pk_sub (Nat.le_refl _), Nat.sub_self, if_pos (by rfl), ih.1, ih.2]
      constructor <;> constructor <;> intro _ <;> omega
    · have h4 : (d' + 1) * 2 ^ (28 * n) ≤ d * 2 ^ (28 * n) := Nat.mul_le_mul_right _ c
      rw [Nat.add_mul, Nat.one_mul] at h4
      rw [pk_sub (Nat.le_of_lt c)]
      have h3 : ¬ nI (d - d') = 0 := fun z => by have := (nI_z (by omega)).mp z; omega
      rw [if_neg h3]
      exact ⟨⟨fun z => absurd z h3, fun z => by omega⟩, ⟨fun z => by have := (nI_le0 (by omega)).mp z; omega, fun z => by omega⟩⟩
def rowAt (R : Nat → Int32) (o : Nat) : Nat → Int32 := fun k => R (o + k)
def cmpI (R : Nat → Int32) (a b : Int32) : Int32 := agS (rowAt R (8 * a.toNatClampNeg)) (rowAt R (8 * b.toNatClampNeg)) 8
theorem cs_3 {S R c M B : Nat} (hM : 0 < M) : (S % (M * B) + (R % (M * B)) * c) / M = (S % M + (R % M) * c) / M + (S / M % B + R / M % B * c) := by
  rw [Nat.mod_mul, Nat.mod_mul, Nat.add_mul, Nat.mul_assoc, show S % M + M * (S / M % B) + (R % M * c + M * (R / M % B * c)) = (S % M + R % M * c) + M * (S / M % B + R / M % B * c) by rw [Nat.mul_add]; omega, Nat.add_mul_div_left _ _ hM]
theorem cs_4 {S R c M B : Nat} (hM : 0 < M) : (S % (M * B) + (R % (M * B)) * c) / M % B = (S + R * c) / M % B := by
  have e : S + R * c = (S % (M * B) + (R % (M * B)) * c) + M * (B * (S / (M * B) + R / (M * B) * c)) := by
    have h1 := Nat.mod_add_div S (M * B)
    have h2 : R * c = (R % (M * B)) * c + M * B * (R / (M * B) * c) := by
      conv => lhs; rw [← Nat.mod_add_div R (M * B), Nat.add_mul]
      congr 1; rw [Nat.mul_assoc]
    have h3 : M * (B * (S / (M * B) + R / (M * B) * c)) = M * B * (S / (M * B)) + M * B * (R / (M * B) * c) := by rw [← Nat.mul_assoc, Nat.mul_add]
    omega
  rw [e, Nat.add_mul_div_left _ _ hM, Nat.add_mul_mod_self_left]
theorem carry2_lt {S R c M : Nat} (hM : 0 < M) : (S % M + R % M * c) / M < c + 1 := by
  rw [Nat.div_lt_iff_lt_mul hM, Nat.add_mul, Nat.one_mul]
  have h1 := Nat.mod_lt S hM
  have h2 : R % M * c ≤ M * c := Nat.mul_le_mul_right _ (Nat.le_of_lt (Nat.mod_lt R hM))
  rw [Nat.mul_comm M c] at h2; omega

theorem r_12_compareRolls_0 {X : Ctx} (F : Fx X cX12_compareRolls RX12 5 1 0 0) {I A : Nat → Nat → Int32} {J : Nat → Nat → Int64} {x1 x2 : Int32}
    (e_1 : WA X (mS I A J) plM 0 0 3 [(0, .ref 0), (1, .int x1), (2, .int x2), (3, .int 7)] []) :
    WA X (mS I A J) plM 0 0 0 [(0, .ref 0), (1, .int x1), (2, .int x2)] [] := by
  refine a_bipush (v := 7) F dX12_compareRolls_0 (by decide) ?_
  refine a_istore_n F dX12_compareRolls_2 rfl (by decide) rfl ?_
  refine a_sub [1, 2, 3, 0] rfl ?_
  exact e_1

theorem r_12_compareRolls_3 {X : Ctx} (F : Fx X cX12_compareRolls RX12 5 1 0 0) {Φ : Option Value → HS → List Nat → Prop} (E : Ex X (some .int) 0 0 Φ) {I A : Nat → Nat → Int32} {J : Nat → Nat → Int64} {x1 x2 x3 : Int32}
    (e_1 : (x3 < 0) → Φ (some (.int 0)) (mS I A J) plM)
    (o_2 : (¬ (x3 < 0)) → vp_in ((8 * x1) + x3) 434112)
    (o_3 : (¬ (x3 < 0)) → vp_in ((8 * x2) + x3) 434112)
    (e_4 : (¬ (x3 < 0)) → (((A 49 ((8 * x1) + x3).toNatClampNeg) - (A 49 ((8 * x2) + x3).toNatClampNeg)) = 0) → WA X (mS I A J) plM 0 0 3 [(0, .ref 0), (1, .int x1), (2, .int x2), (3, .int (x3 + (-1)))] [])
    (e_5 : (¬ (x3 < 0)) → (¬ (((A 49 ((8 * x1) + x3).toNatClampNeg) - (A 49 ((8 * x2) + x3).toNatClampNeg)) = 0)) → Φ (some (.int ((A 49 ((8 * x1) + x3).toNatClampNeg) - (A 49 ((8 * x2) + x3).toNatClampNeg)))) (mS I A J) plM) :
    WA X (mS I A J) plM 0 0 3 [(0, .ref 0), (1, .int x1), (2, .int x2), (3, .int x3)] [] := by
  refine a_iload_n F 3 dX12_compareRolls_3 rfl rfl ?_
  refine a_if_lt (tgt := 46) F dX12_compareRolls_4 (by decide) (fun (c_1 : x3 < 0) => ?_) (fun (c_1 : ¬ (x3 < 0)) => ?_)
  · refine a_iconst (v := 0) F dX12_compareRolls_46 (by decide) ?_
    exact a_iret F E dX12_compareRolls_47 (Nat.le_refl 0) (Nat.le_refl 0) (e_1 c_1)
  · refine a_aload_n F 0 dX12_compareRolls_7 rfl rfl ?_
    refine a_getr (b := 49) F fl_12_80 rfl (by decide) rfl rfl dX12_compareRolls_8 ?_
    refine a_bipush (v := 8) F dX12_compareRolls_11 (by decide) ?_
    refine a_iload_n F 1 dX12_compareRolls_13 rfl rfl ?_
    refine a_imul F dX12_compareRolls_14 ?_
    refine a_iload_n F 3 dX12_compareRolls_15 rfl rfl ?_
    refine a_iadd F dX12_compareRolls_16 ?_
    refine a_iald F (by decide) rfl (o_2 c_1) dX12_compareRolls_17 ?_
    refine a_aload_n F 0 dX12_compareRolls_18 rfl rfl ?_
    refine a_getr (b := 49) F fl_12_80 rfl (by decide) rfl rfl dX12_compareRolls_19 ?_
    refine a_bipush (v := 8) F dX12_compareRolls_22 (by decide) ?_
    refine a_iload_n F 2 dX12_compareRolls_24 rfl rfl ?_
    refine a_imul F dX12_compareRolls_25 ?_
    refine a_iload_n F 3 dX12_compareRolls_26 rfl rfl ?_
    refine a_iadd F dX12_compareRolls_27 ?_
    refine a_iald F (by decide) rfl (o_3 c_1) dX12_compareRolls_28 ?_
    refine a_isub F dX12_compareRolls_29 ?_
    refine a_istore F dX12_compareRolls_30 (by decide) rfl ?_
    refine a_iload F 0 dX12_compareRolls_32 rfl ?_
    refine a_if_eq (tgt := 40) F dX12_compareRolls_34 (by decide) (fun (c_2 : ((A 49 ((8 * x1) + x3).toNatClampNeg) - (A 49 ((8 * x2) + x3).toNatClampNeg)) = 0) => ?_) (fun (c_2 : ¬ (((A 49 ((8 * x1) + x3).toNatClampNeg) - (A 49 ((8 * x2) + x3).toNatClampNeg)) = 0)) => ?_)
    · refine a_iinc (v := x3 + (-1)) F 4 dX12_compareRolls_40 rfl rfl (by decide) rfl ?_
      refine a_goto (tgt := 3) F dX12_compareRolls_43 (by decide) ?_
      refine a_sub [2, 3, 4, 0] rfl ?_
      exact e_4 c_1 c_2
    · refine a_iload F 0 dX12_compareRolls_37 rfl ?_
      exact a_iret F E dX12_compareRolls_39 (Nat.le_refl 0) (Nat.le_refl 0) (e_5 c_1 c_2)

set_option maxRecDepth 10000 in
theorem c_compareRolls (l : Launch) (I A : Nat → Nat → Int32) (J : Nat → Nat → Int64) (a b : Int32) (ha : 0 ≤ a ∧ a < 54264) (hb : 0 ≤ b ∧ b < 54264) : Con l 1 yX12_compareRolls cX12_compareRolls 5 (some .int) [.ref 0, .int a, .int b] (mS I A J) plM 0 0 (PM (some (.int (cmpI (A 49) a b))) I A J) := by
  refine Con.of (by decide) (Nat.le_of_ble_eq_true rfl) (fun X hX9 hn9 F E => ?_)
  obtain ⟨x, hx, rfl⟩ := nI_of2 (x := a) (M := 54263) (n := 54263) rfl (Int32.not_lt.mpr ha.1) (by grind)
  obtain ⟨y, hy, rfl⟩ := nI_of2 (x := b) (M := 54263) (n := 54263) rfl (Int32.not_lt.mpr hb.1) (by grind)
  have ex : ∀ n, 8 * nI x + nI n = nI (8 * x + n) := fun n => by rw [lit 8, pk_mul, nI_add]
  have ey : ∀ n, 8 * nI y + nI n = nI (8 * y + n) := fun n => by rw [lit 8, pk_mul, nI_add]
  have ec : cmpI (A 49) (nI x) (nI y) = agS (rowAt (A 49) (8 * x)) (rowAt (A 49) (8 * y)) 8 := by unfold cmpI; rw [nI_clamp (by omega), nI_clamp (by omega)]
  have loop : ∀ n, n ≤ 8 → agS (rowAt (A 49) (8 * x)) (rowAt (A 49) (8 * y)) n = agS (rowAt (A 49) (8 * x)) (rowAt (A 49) (8 * y)) 8 → WA X (mS I A J) plM 0 0 3 [(0, .ref 0), (1, .int (nI x)), (2, .int (nI y)), (3, .int (nI n + (-1)))] [] := by
    intro n
    induction n with
    | zero =>
      intro _ he
      have h0 : nI 0 + (-1) < 0 := by decide
      exact r_12_compareRolls_3 F E (fun _ => ⟨by rw [ec, ← he]; rfl, rfl, rfl⟩) (fun h => absurd h0 h) (fun h => absurd h0 h) (fun h => absurd h0 h) (fun h => absurd h0 h)
    | succ n ih =>
      intro hn he
      rw [nI_m1]
      have h0 : ¬ nI n < 0 := nI_pos (by omega)
      refine r_12_compareRolls_3 F E (fun h => absurd h h0) (fun _ => by rw [ex]; exact vp_in_nI (by omega) (by omega)) (fun _ => by rw [ey]; exact vp_in_nI (by omega) (by omega)) (fun _ => ?_) (fun _ => ?_)
      · rw [ex, ey, nI_clamp (by omega), nI_clamp (by omega)]; intro c
        exact ih (by omega) (by rw [← he]; simp only [agS]; rw [if_pos (show rowAt (A 49) (8 * x) n - rowAt (A 49) (8 * y) n = 0 from c)])
      · rw [ex, ey, nI_clamp (by omega), nI_clamp (by omega)]; intro c
        exact ⟨by rw [ec, ← he]; simp only [agS]; rw [if_neg (show ¬ rowAt (A 49) (8 * x) n - rowAt (A 49) (8 * y) n = 0 from c)]; rfl, rfl, rfl⟩
  refine r_12_compareRolls_0 F ?_
  exact loop 8 (Nat.le_refl _) rfl

theorem r_12_addRolls_0 {X : Ctx} (F : Fx X cX12_addRolls RX12 6 1 0 0) {I A : Nat → Nat → Int32} {J : Nat → Nat → Int64} {x1 x2 : Int32}
    (e_1 : WA X (mS I A J) plM 0 0 5 [(0, .ref 0), (1, .int x1), (2, .int x2), (3, .long 0), (5, .int 0)] []) :
    WA X (mS I A J) plM 0 0 0 [(0, .ref 0), (1, .int x1), (2, .int x2)] [] := by
  refine a_lconst (v := 0) F dX12_addRolls_0 (by decide) ?_
  refine a_lstore_n F dX12_addRolls_1 rfl (by decide) rfl ?_
  refine a_iconst (v := 0) F dX12_addRolls_2 (by decide) ?_
  refine a_istore F dX12_addRolls_3 (by decide) rfl ?_
  refine a_sub [2, 3, 4, 1, 0] rfl ?_
  exact e_1

theorem r_12_addRolls_5 {X : Ctx} (F : Fx X cX12_addRolls RX12 6 1 0 0) {Φ : Option Value → HS → List Nat → Prop} (E : Ex X none 0 0 Φ) {I A : Nat → Nat → Int32} {J : Nat → Nat → Int64} {x1 x2 x5 : Int32} {y3 : Int64}
    (e_1 : (8 ≤ x5) → Φ none (mS I A J) plM)
    (o_2 : (¬ (8 ≤ x5)) → vp_in x5 8)
    (o_3 : (¬ (8 ≤ x5)) → vp_in ((8 * x1) + x5) 434112)
    (o_4 : (¬ (8 ≤ x5)) → vp_in x5 8)
    (e_5 : (¬ (8 ≤ x5)) → WA X (mS I (up1 A 54 (upd (A 54) x5.toNatClampNeg (((y3 + (((A 54 x5.toNatClampNeg : Int32).toInt64) + (((A 49 ((8 * x1) + x5).toNatClampNeg : Int32).toInt64) * ((x2 : Int32).toInt64)))) &&& 268435455 : Int64).toInt32))) J) plM 0 0 5 [(0, .ref 0), (1, .int x1), (2, .int x2), (3, .long ((y3 + (((A 54 x5.toNatClampNeg : Int32).toInt64) + (((A 49 ((8 * x1) + x5).toNatClampNeg : Int32).toInt64) * ((x2 : Int32).toInt64)))) >>> ((28 : Int32).toInt64 &&& 63))), (5, .int (x5 + 1))] []) :
    WA X (mS I A J) plM 0 0 5 [(0, .ref 0), (1, .int x1), (2, .int x2), (3, .long y3), (5, .int x5)] [] := by
  refine a_iload F 4 dX12_addRolls_5 rfl ?_
  refine a_bipush (v := 8) F dX12_addRolls_7 (by decide) ?_
  refine a_icmp_ge (tgt := 64) F dX12_addRolls_9 (by decide) (fun (c_1 : 8 ≤ x5) => ?_) (fun (c_1 : ¬ (8 ≤ x5)) => ?_)
  · exact a_vret F E dX12_addRolls_64 (Nat.le_refl 0) (Nat.le_refl 0) (e_1 c_1)
  · refine a_lload_n F 3 dX12_addRolls_12 rfl rfl ?_
    refine a_aload_n F 0 dX12_addRolls_13 rfl rfl ?_
    refine a_getr (b := 54) F fl_12_97 rfl (by decide) rfl rfl dX12_addRolls_14 ?_
    refine a_iload F 4 dX12_addRolls_17 rfl ?_
    refine a_iald F (by decide) rfl (o_2 c_1) dX12_addRolls_19 ?_
    refine a_i2l F dX12_addRolls_20 ?_
    refine a_aload_n F 0 dX12_addRolls_21 rfl rfl ?_
    refine a_getr (b := 49) F fl_12_80 rfl (by decide) rfl rfl dX12_addRolls_22 ?_
    refine a_bipush (v := 8) F dX12_addRolls_25 (by decide) ?_
    refine a_iload_n F 1 dX12_addRolls_27 rfl rfl ?_
    refine a_imul F dX12_addRolls_28 ?_
    refine a_iload F 4 dX12_addRolls_29 rfl ?_
    refine a_iadd F dX12_addRolls_31 ?_
    refine a_iald F (by decide) rfl (o_3 c_1) dX12_addRolls_32 ?_
    refine a_i2l F dX12_addRolls_33 ?_
    refine a_iload_n F 2 dX12_addRolls_34 rfl rfl ?_
    refine a_i2l F dX12_addRolls_35 ?_
    refine a_lmul F dX12_addRolls_36 ?_
    refine a_ladd F dX12_addRolls_37 ?_
    refine a_ladd F dX12_addRolls_38 ?_
    refine a_lstore_n F dX12_addRolls_39 rfl (by decide) rfl ?_
    refine a_aload_n F 1 dX12_addRolls_40 rfl rfl ?_
    refine a_getr (b := 54) F fl_12_97 rfl (by decide) rfl rfl dX12_addRolls_41 ?_
    refine a_iload F 4 dX12_addRolls_44 rfl ?_
    refine a_lload_n F 0 dX12_addRolls_46 rfl rfl ?_
    refine a_ldc2 F kc_12_357 dX12_addRolls_47 ?_
    refine a_land F dX12_addRolls_50 ?_
    refine a_l2i F dX12_addRolls_51 ?_
    refine a_iast F (by decide) rfl (o_4 c_1) dX12_addRolls_52 ?_
    refine a_lload_n F 0 dX12_addRolls_53 rfl rfl ?_
    refine a_bipush (v := 28) F dX12_addRolls_54 (by decide) ?_
    refine a_lshr F dX12_addRolls_56 ?_
    refine a_lstore_n F dX12_addRolls_57 rfl (by decide) rfl ?_
    refine a_iinc (v := x5 + 1) F 4 dX12_addRolls_58 rfl rfl (by decide) rfl ?_
    refine a_goto (tgt := 5) F dX12_addRolls_61 (by decide) ?_
    refine a_sub [2, 3, 4, 1, 0] rfl ?_
    exact e_5 c_1

set_option maxRecDepth 10000 in
theorem c_addRolls (l : Launch) (I A : Nat → Nat → Int32) (J : Nat → Nat → Int64) (n c : Nat) (hn : n < 54264) (hc : c ≤ 2) (h1 : digV (A 54) 8) (h2 : digV (rowAt (A 49) (8 * n)) 8) : Con l 1 yX12_addRolls cX12_addRolls 6 none [.ref 0, .int (nI n), .int (nI c)] (mS I A J) plM 0 0 (PM none I (up1 A 54 (putR (A 54) 8 (valR (A 54) 8 + valR (rowAt (A 49) (8 * n)) 8 * c))) J) := by
  refine Con.of (by decide) (Nat.le_of_ble_eq_true rfl) (fun X hX9 hn9 F E => ?_)
  generalize hS : valR (A 54) 8 = S at *
  generalize hR : valR (rowAt (A 49) (8 * n)) 8 = R at *
  have dS : ∀ k, k < 8 → A 54 k = nI (S / 2 ^ (28 * k) % 2 ^ 28) := fun k hk => by rw [← hS]; exact val_dg _ h1 k hk
  have dR : ∀ k, k < 8 → A 49 (8 * n + k) = nI (R / 2 ^ (28 * k) % 2 ^ 28) := fun k hk => by rw [← hR]; exact val_dg _ h2 k hk
  have loop : ∀ f k, k + f = 8 → WA X (mS I (up1 A 54 (putR (A 54) k (S + R * c))) J) plM 0 0 5 [(0, .ref 0), (1, .int (nI n)), (2, .int (nI c)), (3, .long (lN ((S % 2 ^ (28 * k) + (R % 2 ^ (28 * k)) * c) / 2 ^ (28 * k)))), (5, .int (nI k))] [] := by
    intro f
    induction f with
    | zero =>
      intro k hk
      obtain rfl : k = 8 := by omega
      have h : (8 : Int32) ≤ nI 8 := by decide
      exact r_12_addRolls_5 F E (fun _ => ⟨rfl, rfl, rfl⟩) (fun z => absurd h z) (fun z => absurd h z) (fun z => absurd h z) (fun z => absurd h z)
    | succ f ih =>
      intro k hk
      have h : ¬ (8 : Int32) ≤ nI k := nI_ge (b := 8) (by omega) (by omega)
      have e1 : 8 * nI n + nI k = nI (8 * n + k) := by rw [lit 8, pk_mul, nI_add]
      refine r_12_addRolls_5 F E (fun z => absurd z h) (fun _ => vp_in_nI (by omega) (by omega)) (fun _ => by rw [e1]; exact vp_in_nI (by omega) (by omega)) (fun _ => vp_in_nI (by omega) (by omega)) (fun _ => ?_)
      have hpos : 0 < 2 ^ (28 * k) := Nat.two_pow_pos _
      have hd1 : S / 2 ^ (28 * k) % 2 ^ 28 < 2 ^ 28 := Nat.mod_lt _ (by decide)
      have hd2 : R / 2 ^ (28 * k) % 2 ^ 28 < 2 ^ 28 := Nat.mod_lt _ (by decide)
      have hcar := carry2_lt (S := S) (R := R) (c := c) (M := 2 ^ (28 * k)) hpos
      have hmul : R / 2 ^ (28 * k) % 2 ^ 28 * c ≤ 2 ^ 28 * 2 := Nat.mul_le_mul (Nat.le_of_lt hd2) hc
      have er : putR (A 54) k (S + R * c) k = nI (S / 2 ^ (28 * k) % 2 ^ 28) := by unfold putR putH; rw [if_neg (by omega)]; exact dS k (by omega)
      rw [e1, nI_clamp (show k < 2 ^ 31 by omega), nI_clamp (by omega), up1_s, up1_p (show (49 : Nat) ≠ 54 by decide), er, dR k (by omega), nI_l (by omega), nI_l (by omega), nI_l (by omega), lN_mul, lN_add, lN_add, ← cs_3 hpos, ← p28, l_full (by rw [p28, cs_3 hpos]; omega), l_shr28 (by rw [p28, cs_3 hpos]; omega), lN_i, up1_up1, nI_1]
      rw [p28, cs_4 hpos, putH_up, Nat.div_div_eq_div_mul, ← p28]
      exact ih (k + 1) (by omega)
  refine r_12_addRolls_0 F ?_
  have := loop 8 0 rfl
  rw [show putR (A 54) 0 (S + R * c) = A 54 from putH_e _ _ _, up1_id, show (S % 2 ^ (28 * 0) + R % 2 ^ (28 * 0) * c) / 2 ^ (28 * 0) = 0 by simp [Nat.mod_one]] at this
  exact this

theorem put_sh : ∀ k, k < 3 → ((((28 * nI k) : Int32).toInt64 &&& 63).toBitVec.smod 64).toNat = 28 * k := by decide +kernel

theorem r_12_put_0 {X : Ctx} (F : Fx X cX12_put RX12 4 1 0 0) {I A : Nat → Nat → Int32} {J : Nat → Nat → Int64} {y1 : Int64} {q0 : Nat} (hp_q0 : q0 ∈ plM) (hk_q0 : kM q0 = 13)
    (e_1 : WA X (mS I A J) plM 0 0 2 [(0, .ref q0), (1, .long y1), (3, .int 0)] []) :
    WA X (mS I A J) plM 0 0 0 [(0, .ref q0), (1, .long y1)] [] := by
  refine a_iconst (v := 0) F dX12_put_0 (by decide) ?_
  refine a_istore_n F dX12_put_1 rfl (by decide) rfl ?_
  refine a_sub [1, 2, 0] rfl ?_
  exact e_1

theorem r_12_put_2 {X : Ctx} (F : Fx X cX12_put RX12 4 1 0 0) {Φ : Option Value → HS → List Nat → Prop} (E : Ex X none 0 0 Φ) {I A : Nat → Nat → Int32} {J : Nat → Nat → Int64} {x3 : Int32} {y1 : Int64} {q0 : Nat} (hp_q0 : q0 ∈ plM) (hk_q0 : kM q0 = 13)
    (e_1 : ((Int32.ofNat (nM q0)) ≤ x3) → Φ none (mS I A J) plM)
    (o_2 : (¬ ((Int32.ofNat (nM q0)) ≤ x3)) → (3 ≤ x3) → vp_in x3 (nM q0))
    (e_3 : (¬ ((Int32.ofNat (nM q0)) ≤ x3)) → (3 ≤ x3) → WA X (mS I (up1 A q0 (upd (A q0) x3.toNatClampNeg 0)) J) plM 0 0 2 [(0, .ref q0), (1, .long y1), (3, .int (x3 + 1))] [])
    (o_4 : (¬ ((Int32.ofNat (nM q0)) ≤ x3)) → (¬ (3 ≤ x3)) → vp_in x3 (nM q0))
    (e_5 : (¬ ((Int32.ofNat (nM q0)) ≤ x3)) → (¬ (3 ≤ x3)) → WA X (mS I (up1 A q0 (upd (A q0) x3.toNatClampNeg (((y1 >>> (((28 * x3) : Int32).toInt64 &&& 63)) &&& 268435455 : Int64).toInt32))) J) plM 0 0 2 [(0, .ref q0), (1, .long y1), (3, .int (x3 + 1))] []) :
    WA X (mS I A J) plM 0 0 2 [(0, .ref q0), (1, .long y1), (3, .int x3)] [] := by
  refine a_iload_n F 2 dX12_put_2 rfl rfl ?_
  refine a_aload_n F 0 dX12_put_3 rfl rfl ?_
  refine a_alen (v := Int32.ofNat (nM q0)) F (hp_q0) hk_q0 (by decide) (by decide) rfl dX12_put_4 ?_
  refine a_icmp_ge (tgt := 37) F dX12_put_5 (by decide) (fun (c_1 : (Int32.ofNat (nM q0)) ≤ x3) => ?_) (fun (c_1 : ¬ ((Int32.ofNat (nM q0)) ≤ x3)) => ?_)
  · exact a_vret F E dX12_put_37 (Nat.le_refl 0) (Nat.le_refl 0) (e_1 c_1)
  · refine a_aload_n F 0 dX12_put_8 rfl rfl ?_
    refine a_iload_n F 2 dX12_put_9 rfl rfl ?_
    refine a_iload_n F 2 dX12_put_10 rfl rfl ?_
    refine a_iconst (v := 3) F dX12_put_11 (by decide) ?_
    refine a_icmp_ge (tgt := 29) F dX12_put_12 (by decide) (fun (c_2 : 3 ≤ x3) => ?_) (fun (c_2 : ¬ (3 ≤ x3)) => ?_)
    · refine a_iconst (v := 0) F dX12_put_29 (by decide) ?_
      refine a_iast F (hp_q0) hk_q0 (o_2 c_1 c_2) dX12_put_30 ?_
      refine a_iinc (v := x3 + 1) F 2 dX12_put_31 rfl rfl (by decide) rfl ?_
      refine a_goto (tgt := 2) F dX12_put_34 (by decide) ?_
      refine a_sub [1, 2, 0] rfl ?_
      exact e_3 c_1 c_2
    · refine a_lload_n F 1 dX12_put_15 rfl rfl ?_
      refine a_bipush (v := 28) F dX12_put_16 (by decide) ?_
      refine a_iload_n F 2 dX12_put_18 rfl rfl ?_
      refine a_imul F dX12_put_19 ?_
      refine a_lshr F dX12_put_20 ?_
      refine a_ldc2 F kc_12_357 dX12_put_21 ?_
      refine a_land F dX12_put_24 ?_
      refine a_l2i F dX12_put_25 ?_
      refine a_goto (tgt := 30) F dX12_put_26 (by decide) ?_
      refine a_iast F (hp_q0) hk_q0 (o_4 c_1 c_2) dX12_put_30 ?_
      refine a_iinc (v := x3 + 1) F 2 dX12_put_31 rfl rfl (by decide) rfl ?_
      refine a_goto (tgt := 2) F dX12_put_34 (by decide) ?_
      refine a_sub [1, 2, 0] rfl ?_
      exact e_5 c_1 c_2

set_option maxRecDepth 10000 in
theorem c_put (l : Launch) (I A : Nat → Nat → Int32) (J : Nat → Nat → Int64) (q v : Nat) (hq : q ∈ plM) (hk : kM q = 13) (hn : nM q ≤ 400) (hv : v < 2 ^ 62) : Con l 1 yX12_put cX12_put 4 none [.ref q, .long (lN v)] (mS I A J) plM 0 0 (PM none I (up1 A q (putR (A q) (nM q) v)) J) := by
  refine Con.of (by decide) (Nat.le_of_ble_eq_true rfl) (fun X hX9 hn9 F E => ?_)
  have loop : ∀ f k, k + f = nM q → WA X (mS I (up1 A q (putR (A q) k v)) J) plM 0 0 2 [(0, .ref q), (1, .long (lN v)), (3, .int (nI k))] [] := by
    intro f
    induction f with
    | zero =>
      intro k hk2
      obtain rfl : k = nM q := by omega
      have h : Int32.ofNat (nM q) ≤ nI (nM q) := (nI_leI (a := nM q) (b := nM q) (by omega) (by omega)).mpr (Nat.le_refl _)
      exact r_12_put_2 F E hq hk (fun _ => ⟨rfl, rfl, rfl⟩) (fun z => absurd h z) (fun z => absurd h z) (fun z => absurd h z) (fun z => absurd h z)
    | succ f ih =>
      intro k hk2
      have h : ¬ Int32.ofNat (nM q) ≤ nI k := fun z => by have := (nI_leI (a := nM q) (b := k) (by omega) (by omega)).mp z; omega
      refine r_12_put_2 F E hq hk (fun z => absurd z h) (fun _ _ => vp_in_nI (by omega) (by omega)) (fun _ c => ?_) (fun _ _ => vp_in_nI (by omega) (by omega)) (fun _ c => ?_)
      · have c := (nI_gen 3 (by omega) (by omega)).mp c
        have z : v / 2 ^ (28 * k) % 2 ^ 28 = 0 := by
          rw [Nat.div_eq_of_lt (Nat.lt_of_lt_of_le hv (Nat.pow_le_pow_right (by decide) (by omega)))]
        have e := putH_up (A q) k v
        rw [z] at e
        rw [nI_clamp (by omega), nI_1, up1_s, up1_up1, show (0 : Int32) = nI 0 from rfl, e]
        exact ih (k + 1) (by omega)
      · have c : k < 3 := Nat.lt_of_not_le (fun z => c ((nI_gen 3 (by omega) (by omega)).mpr z))
        rw [pf_shr (put_sh k c) hv, l_full (Nat.lt_of_le_of_lt (Nat.div_le_self _ _) (by omega)), lN_i, nI_clamp (by omega), nI_1, up1_s, up1_up1, putH_up]
        exact ih (k + 1) (by omega)
  refine r_12_put_0 F hq hk ?_
  have := loop (nM q) 0 (by omega)
  rw [show putR (A q) 0 v = A q from putH_e _ _ _, up1_id] at this
  exact this
