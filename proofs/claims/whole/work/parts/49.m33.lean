theorem p28a (i k : Nat) : 2 ^ (28 * (i + k)) = 2 ^ (28 * i) * 2 ^ (28 * k) := by rw [← Nat.pow_add]; congr 1; omega
theorem dg_low {T z i j : Nat} (h : j < i) : (T + 2 ^ (28 * i) * z) / 2 ^ (28 * j) % 2 ^ 28 = T / 2 ^ (28 * j) % 2 ^ 28 := by
  rw [show i = j + (1 + (i - j - 1)) by omega, p28a, p28a, Nat.mul_assoc, Nat.mul_assoc, Nat.add_mul_div_left _ _ (Nat.two_pow_pos _), show 28 * 1 = 28 from rfl, Nat.add_mul_mod_self_left]
theorem put_put {r : Nat → Int32} {n m v w : Nat} (h : m ≤ n) : putR (putR r m v) n w = putR r n w := by
  funext k; unfold putR putH
  by_cases c : 0 ≤ k ∧ k < n
  · rw [if_pos c, if_pos c]
  · rw [if_neg c, if_neg c, if_neg (by omega)]
theorem put_in {r : Nat → Int32} {n v k : Nat} (h : k < n) : putR r n v k = nI (v / 2 ^ (28 * k) % 2 ^ 28) := by unfold putR putH; rw [if_pos (by omega)]
theorem put_out {r : Nat → Int32} {n v k : Nat} (h : n ≤ k) : putR r n v k = r k := by unfold putR putH; rw [if_neg (by omega)]

theorem r_12_addProduct_0 {X : Ctx} (F : Fx X cX12_addProduct RX12 7 1 0 0) {I A : Nat → Nat → Int32} {J : Nat → Nat → Int64} {q1 : Nat} (hp_q1 : q1 ∈ plM) (hk_q1 : kM q1 = 13) {q2 : Nat} (hp_q2 : q2 ∈ plM) (hk_q2 : kM q2 = 13)
    (e_1 : WA X (mS I A J) plM 0 0 2 [(0, .ref 0), (1, .ref q1), (2, .ref q2), (3, .int 0)] []) :
    WA X (mS I A J) plM 0 0 0 [(0, .ref 0), (1, .ref q1), (2, .ref q2)] [] := by
  refine a_iconst (v := 0) F dX12_addProduct_0 (by decide) ?_
  refine a_istore_n F dX12_addProduct_1 rfl (by decide) rfl ?_
  refine a_sub [1, 2, 3, 0] rfl ?_
  exact e_1

theorem r_12_addProduct_2 {X : Ctx} (F : Fx X cX12_addProduct RX12 7 1 0 0) {Φ : Option Value → HS → List Nat → Prop} (E : Ex X none 0 0 Φ) {I A : Nat → Nat → Int32} {J : Nat → Nat → Int64} {x3 : Int32} {q1 : Nat} (hp_q1 : q1 ∈ plM) (hk_q1 : kM q1 = 13) {q2 : Nat} (hp_q2 : q2 ∈ plM) (hk_q2 : kM q2 = 13)
    (e_1 : (12 ≤ x3) → Φ none (mS I A J) plM)
    (e_2 : (¬ (12 ≤ x3)) → WA X (mS I A J) plM 0 0 14 [(0, .ref 0), (1, .ref q1), (2, .ref q2), (3, .int x3), (4, .long 0), (6, .int 0)] []) :
    WA X (mS I A J) plM 0 0 2 [(0, .ref 0), (1, .ref q1), (2, .ref q2), (3, .int x3)] [] := by
  refine a_iload_n F 3 dX12_addProduct_2 rfl rfl ?_
  refine a_bipush (v := 12) F dX12_addProduct_3 (by decide) ?_
  refine a_icmp_ge (tgt := 84) F dX12_addProduct_5 (by decide) (fun (c_1 : 12 ≤ x3) => ?_) (fun (c_1 : ¬ (12 ≤ x3)) => ?_)
  · exact a_vret F E dX12_addProduct_84 (Nat.le_refl 0) (Nat.le_refl 0) (e_1 c_1)
  · refine a_lconst (v := 0) F dX12_addProduct_8 (by decide) ?_
    refine a_lstore F dX12_addProduct_9 (by decide) rfl ?_
    refine a_iconst (v := 0) F dX12_addProduct_11 (by decide) ?_
    refine a_istore F dX12_addProduct_12 (by decide) rfl ?_
    refine a_sub [2, 3, 4, 5, 1, 0] rfl ?_
    exact e_2 c_1

theorem r_12_addProduct_14 {X : Ctx} (F : Fx X cX12_addProduct RX12 7 1 0 0) {I A : Nat → Nat → Int32} {J : Nat → Nat → Int64} {x3 x6 : Int32} {y4 : Int64} {q1 : Nat} (hp_q1 : q1 ∈ plM) (hk_q1 : kM q1 = 13) {q2 : Nat} (hp_q2 : q2 ∈ plM) (hk_q2 : kM q2 = 13)
    (e_1 : (12 ≤ (x3 + x6)) → WA X (mS I A J) plM 0 0 2 [(0, .ref 0), (1, .ref q1), (2, .ref q2), (3, .int (x3 + 1))] [])
    (o_2 : (¬ (12 ≤ (x3 + x6))) → vp_in (x3 + x6) 12)
    (o_3 : (¬ (12 ≤ (x3 + x6))) → vp_in x3 (nM q1))
    (o_4 : (¬ (12 ≤ (x3 + x6))) → vp_in x6 (nM q2))
    (o_5 : (¬ (12 ≤ (x3 + x6))) → vp_in (x3 + x6) 12)
    (e_6 : (¬ (12 ≤ (x3 + x6))) → WA X (mS I (up1 A 73 (upd (A 73) (x3 + x6).toNatClampNeg (((y4 + (((A 73 (x3 + x6).toNatClampNeg : Int32).toInt64) + (((A q1 x3.toNatClampNeg : Int32).toInt64) * ((A q2 x6.toNatClampNeg : Int32).toInt64)))) &&& 268435455 : Int64).toInt32))) J) plM 0 0 14 [(0, .ref 0), (1, .ref q1), (2, .ref q2), (3, .int x3), (4, .long ((y4 + (((A 73 (x3 + x6).toNatClampNeg : Int32).toInt64) + (((A q1 x3.toNatClampNeg : Int32).toInt64) * ((A q2 x6.toNatClampNeg : Int32).toInt64)))) >>> ((28 : Int32).toInt64 &&& 63))), (6, .int (x6 + 1))] []) :
    WA X (mS I A J) plM 0 0 14 [(0, .ref 0), (1, .ref q1), (2, .ref q2), (3, .int x3), (4, .long y4), (6, .int x6)] [] := by
  refine a_iload_n F 3 dX12_addProduct_14 rfl rfl ?_
  refine a_iload F 5 dX12_addProduct_15 rfl ?_
  refine a_iadd F dX12_addProduct_17 ?_
  refine a_bipush (v := 12) F dX12_addProduct_18 (by decide) ?_
  refine a_icmp_ge (tgt := 78) F dX12_addProduct_20 (by decide) (fun (c_2 : 12 ≤ (x3 + x6)) => ?_) (fun (c_2 : ¬ (12 ≤ (x3 + x6))) => ?_)
  · refine a_iinc (v := x3 + 1) F 3 dX12_addProduct_78 rfl rfl (by decide) rfl ?_
    refine a_goto (tgt := 2) F dX12_addProduct_81 (by decide) ?_
    refine a_sub [1, 2, 3, 0] rfl ?_
    exact e_1 c_2
  · refine a_lload F 4 dX12_addProduct_23 rfl ?_
    refine a_aload_n F 0 dX12_addProduct_25 rfl rfl ?_
    refine a_getr (b := 73) F fl_12_143 rfl (by decide) rfl rfl dX12_addProduct_26 ?_
    refine a_iload_n F 3 dX12_addProduct_29 rfl rfl ?_
    refine a_iload F 5 dX12_addProduct_30 rfl ?_
    refine a_iadd F dX12_addProduct_32 ?_
    refine a_iald F (by decide) rfl (o_2 c_2) dX12_addProduct_33 ?_
    refine a_i2l F dX12_addProduct_34 ?_
    refine a_aload_n F 1 dX12_addProduct_35 rfl rfl ?_
    refine a_iload_n F 3 dX12_addProduct_36 rfl rfl ?_
    refine a_iald F (hp_q1) hk_q1 (o_3 c_2) dX12_addProduct_37 ?_
    refine a_i2l F dX12_addProduct_38 ?_
    refine a_aload_n F 2 dX12_addProduct_39 rfl rfl ?_
    refine a_iload F 5 dX12_addProduct_40 rfl ?_
    refine a_iald F (hp_q2) hk_q2 (o_4 c_2) dX12_addProduct_42 ?_
    refine a_i2l F dX12_addProduct_43 ?_
    refine a_lmul F dX12_addProduct_44 ?_
    refine a_ladd F dX12_addProduct_45 ?_
    refine a_ladd F dX12_addProduct_46 ?_
    refine a_lstore F dX12_addProduct_47 (by decide) rfl ?_
    refine a_aload_n F 1 dX12_addProduct_49 rfl rfl ?_
    refine a_getr (b := 73) F fl_12_143 rfl (by decide) rfl rfl dX12_addProduct_50 ?_
    refine a_iload_n F 4 dX12_addProduct_53 rfl rfl ?_
    refine a_iload F 5 dX12_addProduct_54 rfl ?_
    refine a_iadd F dX12_addProduct_56 ?_
    refine a_lload F 0 dX12_addProduct_57 rfl ?_
    refine a_ldc2 F kc_12_357 dX12_addProduct_59 ?_
    refine a_land F dX12_addProduct_62 ?_
    refine a_l2i F dX12_addProduct_63 ?_
    refine a_iast F (by decide) rfl (o_5 c_2) dX12_addProduct_64 ?_
    refine a_lload F 0 dX12_addProduct_65 rfl ?_
    refine a_bipush (v := 28) F dX12_addProduct_67 (by decide) ?_
    refine a_lshr F dX12_addProduct_69 ?_
    refine a_lstore F dX12_addProduct_70 (by decide) rfl ?_
    refine a_iinc (v := x6 + 1) F 5 dX12_addProduct_72 rfl rfl (by decide) rfl ?_
    refine a_goto (tgt := 14) F dX12_addProduct_75 (by decide) ?_
    refine a_sub [2, 3, 4, 5, 1, 0] rfl ?_
    exact e_6 c_2

set_option maxRecDepth 10000 in
theorem c_addProduct (l : Launch) (I A : Nat → Nat → Int32) (J : Nat → Nat → Int64) (p q : Nat) (hp : p ∈ plM) (hkp : kM p = 13) (hnp : nM p = 12) (hq : q ∈ plM) (hkq : kM q = 13) (hnq : nM q = 12) (hp73 : p ≠ 73) (hq73 : q ≠ 73) (h1 : digV (A p) 12) (h2 : digV (A q) 12) (h3 : digV (A 73) 12) : Con l 1 yX12_addProduct cX12_addProduct 7 none [.ref 0, .ref p, .ref q] (mS I A J) plM 0 0 (PM none I (up1 A 73 (putR (A 73) 12 (valR (A 73) 12 + valR (A p) 12 * valR (A q) 12))) J) := by
  refine Con.of (by decide) (Nat.le_of_ble_eq_true rfl) (fun X hX9 hn9 F E => ?_)
  generalize hT : valR (A 73) 12 = T0 at *
  have hXl := val_lt _ h1
  generalize hX : valR (A p) 12 = Xv at *
  generalize hY : valR (A q) 12 = Y at *
  have dX : ∀ k, k < 12 → A p k = nI (Xv / 2 ^ (28 * k) % 2 ^ 28) := fun k hk => by rw [← hX]; exact val_dg _ h1 k hk
  have dY : ∀ k, k < 12 → A q k = nI (Y / 2 ^ (28 * k) % 2 ^ 28) := fun k hk => by rw [← hY]; exact val_dg _ h2 k hk
  have outer : ∀ f i, i + f = 12 → WA X (mS I (up1 A 73 (putR (A 73) 12 (T0 + (Xv % 2 ^ (28 * i)) * Y))) J) plM 0 0 2 [(0, .ref 0), (1, .ref p), (2, .ref q), (3, .int (nI i))] [] := by
    intro f
    induction f with
    | zero =>
      intro i hi
      obtain rfl : i = 12 := by omega
      have h : (12 : Int32) ≤ nI 12 := by decide
      refine r_12_addProduct_2 F E hp hkp hq hkq (fun _ => ?_) (fun z => absurd h z)
      rw [Nat.mod_eq_of_lt hXl]; exact ⟨rfl, rfl, rfl⟩
    | succ f ih =>
      intro i hi
      have h : ¬ (12 : Int32) ≤ nI i := nI_ge (b := 12) (by omega) (by omega)
      refine r_12_addProduct_2 F E hp hkp hq hkq (fun z => absurd z h) (fun _ => ?_)
      have eT : T0 + (Xv % 2 ^ (28 * (i + 1))) * Y = (T0 + (Xv % 2 ^ (28 * i)) * Y) + 2 ^ (28 * i) * (Y * (Xv / 2 ^ (28 * i) % 2 ^ 28)) := by
        rw [mod_p28, Nat.add_mul, ← Nat.add_assoc]; congr 1
        rw [Nat.mul_assoc, Nat.mul_left_comm, Nat.mul_comm Y]
      have ih' := ih (i + 1) (by omega)
      rw [eT] at ih'
      have hx : Xv / 2 ^ (28 * i) % 2 ^ 28 < 2 ^ 28 := Nat.mod_lt _ (by decide)
      have rX : A p i = nI (Xv / 2 ^ (28 * i) % 2 ^ 28) := dX i (by omega)
      generalize T0 + (Xv % 2 ^ (28 * i)) * Y = T at ih' ⊢
      generalize Xv / 2 ^ (28 * i) % 2 ^ 28 = xi at ih' hx rX eT ⊢
      have inner : ∀ f2 k, i + k + f2 = 12 → WA X (mS I (up1 A 73 (putR (putR (A 73) 12 T) (i + k) (T + 2 ^ (28 * i) * (Y * xi)))) J) plM 0 0 14 [(0, .ref 0), (1, .ref p), (2, .ref q), (3, .int (nI i)), (4, .long (lN ((T / 2 ^ (28 * i) % 2 ^ (28 * k) + (Y % 2 ^ (28 * k)) * xi) / 2 ^ (28 * k)))), (6, .int (nI k))] [] := by
        intro f2
        induction f2 with
        | zero =>
          intro k hk
          have h12 : (12 : Int32) ≤ nI i + nI k := by rw [nI_add, show i + k = 12 by omega]; decide
          refine r_12_addProduct_14 F hp hkp hq hkq (fun _ => ?_) (fun z => absurd h12 z) (fun z => absurd h12 z) (fun z => absurd h12 z) (fun z => absurd h12 z) (fun z => absurd h12 z)
          rw [nI_1, show i + k = 12 by omega, put_put (Nat.le_refl _)]
          exact ih'
        | succ f2 ih2 =>
          intro k hk
          have h12 : ¬ (12 : Int32) ≤ nI i + nI k := by rw [nI_add]; exact nI_ge (b := 12) (by omega) (by omega)
          have v12 : vp_in (nI i + nI k) 12 := by rw [nI_add]; exact vp_in_nI (by omega) (by omega)
          refine r_12_addProduct_14 F hp hkp hq hkq (fun z => absurd z h12) (fun _ => v12) (fun _ => vp_in_nI (by omega) (by omega)) (fun _ => vp_in_nI (by omega) (by omega)) (fun _ => v12) (fun _ => ?_)
          have hpos : 0 < 2 ^ (28 * k) := Nat.two_pow_pos _
          have hd1 : T / 2 ^ (28 * i) / 2 ^ (28 * k) % 2 ^ 28 < 2 ^ 28 := Nat.mod_lt _ (by decide)
          have hd2 : Y / 2 ^ (28 * k) % 2 ^ 28 < 2 ^ 28 := Nat.mod_lt _ (by decide)
          have hcar := carry2_lt (S := T / 2 ^ (28 * i)) (R := Y) (c := xi) (M := 2 ^ (28 * k)) hpos
          have hmul : Y / 2 ^ (28 * k) % 2 ^ 28 * xi ≤ 2 ^ 28 * 2 ^ 28 := Nat.mul_le_mul (Nat.le_of_lt hd2) (Nat.le_of_lt hx)
          have er : putR (putR (A 73) 12 T) (i + k) (T + 2 ^ (28 * i) * (Y * xi)) (i + k) = nI (T / 2 ^ (28 * i) / 2 ^ (28 * k) % 2 ^ 28) := by rw [put_out (Nat.le_refl _), put_in (by omega), p28a, Nat.div_div_eq_div_mul]
          have ed : (T / 2 ^ (28 * i) + Y * xi) / 2 ^ (28 * k) = (T + 2 ^ (28 * i) * (Y * xi)) / 2 ^ (28 * (i + k)) := by rw [p28a, ← Nat.div_div_eq_div_mul, Nat.add_mul_div_left _ _ (Nat.two_pow_pos _)]
          rw [nI_add, nI_clamp (show i + k < 2 ^ 31 by omega), nI_clamp (by omega), nI_clamp (by omega), up1_s, up1_p hp73, up1_p hq73, er, rX, dY k (by omega), nI_l (by omega), nI_l (by omega), nI_l (by omega), lN_mul, Nat.mul_comm xi, lN_add, lN_add, ← cs_3 hpos, ← p28, l_full (by rw [p28, cs_3 hpos]; omega), l_shr28 (by rw [p28, cs_3 hpos]; omega), lN_i, up1_up1, nI_1]
          rw [p28, cs_4 hpos, Nat.div_div_eq_div_mul, ← p28, ed, putH_up]
          exact ih2 (k + 1) (by omega)
      have := inner (12 - i) 0 (by omega)
      rw [Nat.add_zero, show putR (putR (A 73) 12 T) i (T + 2 ^ (28 * i) * (Y * xi)) = putR (A 73) 12 T by
        funext j
        rcases Nat.lt_or_ge j i with z | z
        · rw [put_in z, put_in (by omega), dg_low z]
        · rw [put_out z], show (T / 2 ^ (28 * i) % 2 ^ (28 * 0) + Y % 2 ^ (28 * 0) * xi) / 2 ^ (28 * 0) = 0 by simp [Nat.mod_one]] at this
      exact this
  refine r_12_addProduct_0 F hp hkp hq hkq ?_
  have := outer 12 0 rfl
  rw [Nat.mul_zero, Nat.pow_zero, Nat.mod_one, Nat.zero_mul, Nat.add_zero, ← hT, put_self h3, up1_id] at this
  exact this
