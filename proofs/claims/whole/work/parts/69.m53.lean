noncomputable def raT (x y n : Nat) : Nat := (wN n x - 36 * wN (n - 1) x) * ((36 ^ (n - 1) - wN (n - 1) y) * 36 ^ (24 - 2 * n))
noncomputable def raS (x y : Nat) : Nat := sumB (raT x y) 1 12
theorem raT_le {x y n : Nat} (hx : stnd x) (h1 : 1 ≤ n) (h2 : n ≤ 12) : raT x y n ≤ 36 ^ 23 := by
  unfold raT
  have a1 : wN n x - 36 * wN (n - 1) x ≤ 36 ^ n := Nat.le_trans (Nat.sub_le _ _) (wN_le n hx)
  have a2 : 36 ^ (n - 1) - wN (n - 1) y ≤ 36 ^ (n - 1) := Nat.sub_le _ _
  refine Nat.le_trans (Nat.mul_le_mul a1 (Nat.mul_le_mul a2 (Nat.le_refl _))) ?_
  rw [← Nat.pow_add, ← Nat.pow_add, show n + (n - 1 + (24 - 2 * n)) = 23 by omega]
  exact Nat.le_refl _
theorem raS_lt {x y n : Nat} (hx : stnd x) (h2 : n ≤ 12) : sumB (raT x y) 1 n < 2 ^ 336 := by
  have := su_bd (f := raT x y) (o := 1) (c := 36 ^ 23) n (fun k hk => raT_le hx (by omega) (by omega))
  have h3 : n * 36 ^ 23 ≤ 12 * 36 ^ 23 := Nat.mul_le_mul h2 (Nat.le_refl _)
  have h4 : 12 * 36 ^ 23 < 2 ^ 336 := by decide +kernel
  omega
def rfQ (I A : Nat → Nat → Int32) (c : Int32) (L : Nat) : Option Value → HS → List Nat → Prop := fun rv σ' pl' => ∃ I' A' J', rv = some (.int 0) ∧ σ' = mS I' A' J' ∧ pl' = plM ∧ I' 0 0 = c ∧ boS I' A' L ∧ joS J' ∧ (∀ k, k ≠ 0 → k < 55 → I' 0 k = I 0 k) ∧ I' 0 61 = I 0 61 ∧ (∀ q, q < 49 → A' q = A q) ∧ A' 59 = A 59
def sure (x : Int32) : Prop := wN 12 x.toNatClampNeg = 36 ^ 12
noncomputable def raU (x y : Int32) : Nat := if x = 0 then 1 else raS x.toNatClampNeg y.toNatClampNeg
def raP (x : Int32) : Nat := if x = 0 then 0 else 23
def racQ (I A : Nat → Nat → Int32) (J : Nat → Nat → Int64) (x y : Int32) (L : Nat) : Option Value → HS → List Nat → Prop := fun rv σ' pl' => (¬ (stdI x ∧ stdI y) → rv = some (.int 0) ∧ σ' = mS (up2 I 0 0 1) A J ∧ pl' = plM) ∧ (stdI x ∧ stdI y → ¬ (pipS x.toNatClampNeg ≤ L ∧ pipS y.toNatClampNeg ≤ L) → rv = some (.int 0) ∧ σ' = mS (up2 I 0 0 2) A J ∧ pl' = plM) ∧ (okS x L → okS y L → ¬ (sure x ∧ sure y) → rfQ I A 2 L rv σ' pl') ∧ (okS x L → okS y L → sure x ∧ sure y → x = 0 ∧ y = 0 → rfQ I A 3 L rv σ' pl') ∧ (okS x L → okS y L → sure x ∧ sure y → ¬ (x = 0 ∧ y = 0) → pgQ I A J (raU x y) (raP x) L rv σ' pl')

theorem r_12_race_0 {X : Ctx} (F : Fx X cX12_race RX12 5 5 0 0) {Φ : Option Value → HS → List Nat → Prop} (E : Ex X (some .int) 0 0 Φ) {I A : Nat → Nat → Int32} {J : Nat → Nat → Int64} {x1 x2 : Int32}
    (o_1 : (stdI x1) → (stdI x2) → 0 ≤ x1)
    (o_2 : (stdI x1) → (stdI x2) → (nI (pipS x1.toNatClampNeg) ≤ (I 0 55)) → 0 ≤ x2)
    (e_3 : (stdI x1) → (stdI x2) → (nI (pipS x1.toNatClampNeg) ≤ (I 0 55)) → (nI (pipS x2.toNatClampNeg) ≤ (I 0 55)) → WA X (mS (up2 I 0 0 0) A J) plM 0 0 64 [(0, .ref 0), (1, .int x1), (2, .int x2)] [.ref 0])
    (e_4 : (stdI x1) → (stdI x2) → (nI (pipS x1.toNatClampNeg) ≤ (I 0 55)) → (¬ (nI (pipS x2.toNatClampNeg) ≤ (I 0 55))) → Φ (some (.int 0)) (mS (up2 (up2 I 0 0 0) 0 0 (2 : Int32)) A J) plM)
    (e_5 : (stdI x1) → (stdI x2) → (¬ (nI (pipS x1.toNatClampNeg) ≤ (I 0 55))) → Φ (some (.int 0)) (mS (up2 (up2 I 0 0 0) 0 0 (2 : Int32)) A J) plM)
    (e_6 : (stdI x1) → (¬ (stdI x2)) → Φ (some (.int 0)) (mS (up2 (up2 I 0 0 0) 0 0 (1 : Int32)) A J) plM)
    (e_7 : (¬ (stdI x1)) → Φ (some (.int 0)) (mS (up2 (up2 I 0 0 0) 0 0 (1 : Int32)) A J) plM) :
    WA X (mS I A J) plM 0 0 0 [(0, .ref 0), (1, .int x1), (2, .int x2)] [] := by
  refine a_aload_n F 0 dX12_race_0 rfl rfl ?_
  refine a_iconst (v := 0) F dX12_race_1 (by decide) ?_
  refine a_puti F fl_12_1 rfl rfl rfl rfl (by decide) rfl dX12_race_2 ?_
  refine a_aload_n F 0 dX12_race_5 rfl rfl ?_
  refine a_iload_n F 1 dX12_race_6 rfl rfl ?_
  refine a_callS (As := [.int x1]) (st := [.ref 0]) F (c_isStand (xl X) (up2 I 0 0 0) A J x1) ml_12_395 sm_yX12_isStand (by decide) rfl dX12_race_7 (Nat.le_of_ble_eq_true rfl) (Nat.le_refl 0) (Nat.le_refl 0) (hl_r (by decide) (hl_i (hl_i hl_nil))) (hs_r (by decide) hs_nil) ?_
  rintro _ _ _ ⟨rfl, rfl, rfl⟩ _
  show WA X (mS (up2 I 0 0 0) A J) plM 0 0 10 [(0, .ref 0), (1, .int x1), (2, .int x2)] [.int (@ite Int32 (stdI x1) (Classical.propDecidable _) 1 0), .ref 0]
  refine a_ite (fun (c_1 : stdI x1) => ?_) (fun (c_1 : ¬ (stdI x1)) => ?_)
  · refine a_if_eq (tgt := 24) F dX12_race_10 (by decide) (fun (c_2 : (1 : Int32) = 0) => ?_) (fun (c_2 : ¬ ((1 : Int32) = 0)) => ?_)
    · exact absurd c_2 (by decide)
    · refine a_iload_n F 2 dX12_race_13 rfl rfl ?_
      refine a_callS (As := [.int x2]) (st := [.ref 0]) F (c_isStand (xl X) (up2 I 0 0 0) A J x2) ml_12_395 sm_yX12_isStand (by decide) rfl dX12_race_14 (Nat.le_of_ble_eq_true rfl) (Nat.le_refl 0) (Nat.le_refl 0) (hl_r (by decide) (hl_i (hl_i hl_nil))) (hs_r (by decide) hs_nil) ?_
      rintro _ _ _ ⟨rfl, rfl, rfl⟩ _
      show WA X (mS (up2 I 0 0 0) A J) plM 0 0 17 [(0, .ref 0), (1, .int x1), (2, .int x2)] [.int (@ite Int32 (stdI x2) (Classical.propDecidable _) 1 0), .ref 0]
      refine a_ite (fun (c_3 : stdI x2) => ?_) (fun (c_3 : ¬ (stdI x2)) => ?_)
      · refine a_if_eq (tgt := 24) F dX12_race_17 (by decide) (fun (c_4 : (1 : Int32) = 0) => ?_) (fun (c_4 : ¬ ((1 : Int32) = 0)) => ?_)
        · exact absurd c_4 (by decide)
        · refine a_iconst (v := 1) F dX12_race_20 (by decide) ?_
          refine a_goto (tgt := 25) F dX12_race_21 (by decide) ?_
          refine a_iconst (v := 1) F dX12_race_25 (by decide) ?_
          refine a_callV (b := 0) (As := [.int 1, .int 1]) (st := []) (ci := 12) F (c_may1 (xl X) (up2 I 0 0 0) A J (1 : Int32) (by decide) rfl) ml_12_155 im_yX12_may se_yX12_may (by decide) (by decide) rfl (by decide) rfl rfl dX12_race_26 (by decide) (Nat.le_refl 0) (Nat.le_refl 0) (hl_r (by decide) (hl_i (hl_i hl_nil))) hs_nil ?_
          rintro _ _ _ ⟨rfl, rfl, rfl⟩ _
          show WA X (mS (up2 I 0 0 0) A J) plM 0 0 29 [(0, .ref 0), (1, .int x1), (2, .int x2)] [.int 1]
          refine a_if_eq (tgt := 61) F dX12_race_29 (by decide) (fun (c_5 : (1 : Int32) = 0) => ?_) (fun (c_5 : ¬ ((1 : Int32) = 0)) => ?_)
          · exact absurd c_5 (by decide)
          · refine a_aload_n F 0 dX12_race_32 rfl rfl ?_
            refine a_aload_n F 0 dX12_race_33 rfl rfl ?_
            refine a_iload_n F 1 dX12_race_34 rfl rfl ?_
            refine a_callV (b := 0) (As := [.int x1]) (st := [.ref 0]) (ci := 12) F (c_isKnown (xl X) (up2 I 0 0 0) A J x1 (o_1 c_1 c_3)) ml_12_398 im_yX12_isKnown se_yX12_isKnown (by decide) (by decide) rfl (by decide) rfl rfl dX12_race_35 (Nat.le_of_ble_eq_true rfl) (Nat.le_refl 0) (Nat.le_refl 0) (hl_r (by decide) (hl_i (hl_i hl_nil))) (hs_r (by decide) hs_nil) ?_
            rintro _ _ _ ⟨rfl, rfl, rfl⟩ _
            show WA X (mS (up2 I 0 0 0) A J) plM 0 0 38 [(0, .ref 0), (1, .int x1), (2, .int x2)] [.int (if nI (pipS x1.toNatClampNeg) ≤ (I 0 55) then 1 else 0), .ref 0]
            refine a_ite (fun (c_6 : nI (pipS x1.toNatClampNeg) ≤ (I 0 55)) => ?_) (fun (c_6 : ¬ (nI (pipS x1.toNatClampNeg) ≤ (I 0 55))) => ?_)
            · refine a_if_eq (tgt := 53) F dX12_race_38 (by decide) (fun (c_7 : (1 : Int32) = 0) => ?_) (fun (c_7 : ¬ ((1 : Int32) = 0)) => ?_)
              · exact absurd c_7 (by decide)
              · refine a_aload_n F 0 dX12_race_41 rfl rfl ?_
                refine a_iload_n F 2 dX12_race_42 rfl rfl ?_
                refine a_callV (b := 0) (As := [.int x2]) (st := [.ref 0]) (ci := 12) F (c_isKnown (xl X) (up2 I 0 0 0) A J x2 (o_2 c_1 c_3 c_6)) ml_12_398 im_yX12_isKnown se_yX12_isKnown (by decide) (by decide) rfl (by decide) rfl rfl dX12_race_43 (Nat.le_of_ble_eq_true rfl) (Nat.le_refl 0) (Nat.le_refl 0) (hl_r (by decide) (hl_i (hl_i hl_nil))) (hs_r (by decide) hs_nil) ?_
                rintro _ _ _ ⟨rfl, rfl, rfl⟩ _
                show WA X (mS (up2 I 0 0 0) A J) plM 0 0 46 [(0, .ref 0), (1, .int x1), (2, .int x2)] [.int (if nI (pipS x2.toNatClampNeg) ≤ (I 0 55) then 1 else 0), .ref 0]
                refine a_ite (fun (c_8 : nI (pipS x2.toNatClampNeg) ≤ (I 0 55)) => ?_) (fun (c_8 : ¬ (nI (pipS x2.toNatClampNeg) ≤ (I 0 55))) => ?_)
                · refine a_if_eq (tgt := 53) F dX12_race_46 (by decide) (fun (c_9 : (1 : Int32) = 0) => ?_) (fun (c_9 : ¬ ((1 : Int32) = 0)) => ?_)
                  · exact absurd c_9 (by decide)
                  · refine a_iconst (v := 1) F dX12_race_49 (by decide) ?_
                    refine a_goto (tgt := 54) F dX12_race_50 (by decide) ?_
                    refine a_iconst (v := 2) F dX12_race_54 (by decide) ?_
                    refine a_callV (b := 0) (As := [.int 1, .int 2]) (st := []) (ci := 12) F (c_may1 (xl X) (up2 I 0 0 0) A J (2 : Int32) (by decide) rfl) ml_12_155 im_yX12_may se_yX12_may (by decide) (by decide) rfl (by decide) rfl rfl dX12_race_55 (by decide) (Nat.le_refl 0) (Nat.le_refl 0) (hl_r (by decide) (hl_i (hl_i hl_nil))) hs_nil ?_
                    rintro _ _ _ ⟨rfl, rfl, rfl⟩ _
                    show WA X (mS (up2 I 0 0 0) A J) plM 0 0 58 [(0, .ref 0), (1, .int x1), (2, .int x2)] [.int 1]
                    refine a_if_ne (tgt := 63) F dX12_race_58 (by decide) (fun (c_10 : ¬ (1 : Int32) = 0) => ?_) (fun (c_10 : (1 : Int32) = 0) => ?_)
                    · refine a_aload_n F 0 dX12_race_63 rfl rfl ?_
                      exact e_3 c_1 c_3 c_6 c_8
                    · exact absurd c_10 (by decide)
                · refine a_if_eq (tgt := 53) F dX12_race_46 (by decide) (fun (c_11 : (0 : Int32) = 0) => ?_) (fun (c_11 : ¬ ((0 : Int32) = 0)) => ?_)
                  · refine a_iconst (v := 0) F dX12_race_53 (by decide) ?_
                    refine a_iconst (v := 2) F dX12_race_54 (by decide) ?_
                    refine a_callV (b := 0) (As := [.int 0, .int 2]) (st := []) (ci := 12) F (c_may0 (xl X) (up2 I 0 0 0) A J (2 : Int32) (by decide) rfl) ml_12_155 im_yX12_may se_yX12_may (by decide) (by decide) rfl (by decide) rfl rfl dX12_race_55 (by decide) (Nat.le_refl 0) (Nat.le_refl 0) (hl_r (by decide) (hl_i (hl_i hl_nil))) hs_nil ?_
                    rintro _ _ _ ⟨rfl, rfl, rfl⟩ _
                    show WA X (mS (up2 (up2 I 0 0 0) 0 0 (2 : Int32)) A J) plM 0 0 58 [(0, .ref 0), (1, .int x1), (2, .int x2)] [.int 0]
                    refine a_if_ne (tgt := 63) F dX12_race_58 (by decide) (fun (c_12 : ¬ (0 : Int32) = 0) => ?_) (fun (c_12 : (0 : Int32) = 0) => ?_)
                    · exact absurd c_12 (by decide)
                    · refine a_iconst (v := 0) F dX12_race_61 (by decide) ?_
                      exact a_iret F E dX12_race_62 (Nat.le_refl 0) (Nat.le_refl 0) (e_4 c_1 c_3 c_6 c_8)
                  · exact absurd c_11 (by decide)
            · refine a_if_eq (tgt := 53) F dX12_race_38 (by decide) (fun (c_13 : (0 : Int32) = 0) => ?_) (fun (c_13 : ¬ ((0 : Int32) = 0)) => ?_)
              · refine a_iconst (v := 0) F dX12_race_53 (by decide) ?_
                refine a_iconst (v := 2) F dX12_race_54 (by decide) ?_
                refine a_callV (b := 0) (As := [.int 0, .int 2]) (st := []) (ci := 12) F (c_may0 (xl X) (up2 I 0 0 0) A J (2 : Int32) (by decide) rfl) ml_12_155 im_yX12_may se_yX12_may (by decide) (by decide) rfl (by decide) rfl rfl dX12_race_55 (by decide) (Nat.le_refl 0) (Nat.le_refl 0) (hl_r (by decide) (hl_i (hl_i hl_nil))) hs_nil ?_
                rintro _ _ _ ⟨rfl, rfl, rfl⟩ _
                show WA X (mS (up2 (up2 I 0 0 0) 0 0 (2 : Int32)) A J) plM 0 0 58 [(0, .ref 0), (1, .int x1), (2, .int x2)] [.int 0]
                refine a_if_ne (tgt := 63) F dX12_race_58 (by decide) (fun (c_14 : ¬ (0 : Int32) = 0) => ?_) (fun (c_14 : (0 : Int32) = 0) => ?_)
                · exact absurd c_14 (by decide)
                · refine a_iconst (v := 0) F dX12_race_61 (by decide) ?_
                  exact a_iret F E dX12_race_62 (Nat.le_refl 0) (Nat.le_refl 0) (e_5 c_1 c_3 c_6)
              · exact absurd c_13 (by decide)
      · refine a_if_eq (tgt := 24) F dX12_race_17 (by decide) (fun (c_15 : (0 : Int32) = 0) => ?_) (fun (c_15 : ¬ ((0 : Int32) = 0)) => ?_)
        · refine a_iconst (v := 0) F dX12_race_24 (by decide) ?_
          refine a_iconst (v := 1) F dX12_race_25 (by decide) ?_
          refine a_callV (b := 0) (As := [.int 0, .int 1]) (st := []) (ci := 12) F (c_may0 (xl X) (up2 I 0 0 0) A J (1 : Int32) (by decide) rfl) ml_12_155 im_yX12_may se_yX12_may (by decide) (by decide) rfl (by decide) rfl rfl dX12_race_26 (by decide) (Nat.le_refl 0) (Nat.le_refl 0) (hl_r (by decide) (hl_i (hl_i hl_nil))) hs_nil ?_
          rintro _ _ _ ⟨rfl, rfl, rfl⟩ _
          show WA X (mS (up2 (up2 I 0 0 0) 0 0 (1 : Int32)) A J) plM 0 0 29 [(0, .ref 0), (1, .int x1), (2, .int x2)] [.int 0]
          refine a_if_eq (tgt := 61) F dX12_race_29 (by decide) (fun (c_16 : (0 : Int32) = 0) => ?_) (fun (c_16 : ¬ ((0 : Int32) = 0)) => ?_)
          · refine a_iconst (v := 0) F dX12_race_61 (by decide) ?_
            exact a_iret F E dX12_race_62 (Nat.le_refl 0) (Nat.le_refl 0) (e_6 c_1 c_3)
          · exact absurd c_16 (by decide)
        · exact absurd c_15 (by decide)
  · refine a_if_eq (tgt := 24) F dX12_race_10 (by decide) (fun (c_17 : (0 : Int32) = 0) => ?_) (fun (c_17 : ¬ ((0 : Int32) = 0)) => ?_)
    · refine a_iconst (v := 0) F dX12_race_24 (by decide) ?_
      refine a_iconst (v := 1) F dX12_race_25 (by decide) ?_
      refine a_callV (b := 0) (As := [.int 0, .int 1]) (st := []) (ci := 12) F (c_may0 (xl X) (up2 I 0 0 0) A J (1 : Int32) (by decide) rfl) ml_12_155 im_yX12_may se_yX12_may (by decide) (by decide) rfl (by decide) rfl rfl dX12_race_26 (by decide) (Nat.le_refl 0) (Nat.le_refl 0) (hl_r (by decide) (hl_i (hl_i hl_nil))) hs_nil ?_
      rintro _ _ _ ⟨rfl, rfl, rfl⟩ _
      show WA X (mS (up2 (up2 I 0 0 0) 0 0 (1 : Int32)) A J) plM 0 0 29 [(0, .ref 0), (1, .int x1), (2, .int x2)] [.int 0]
      refine a_if_eq (tgt := 61) F dX12_race_29 (by decide) (fun (c_18 : (0 : Int32) = 0) => ?_) (fun (c_18 : ¬ ((0 : Int32) = 0)) => ?_)
      · refine a_iconst (v := 0) F dX12_race_61 (by decide) ?_
        exact a_iret F E dX12_race_62 (Nat.le_refl 0) (Nat.le_refl 0) (e_7 c_1)
      · exact absurd c_18 (by decide)
    · exact absurd c_17 (by decide)

theorem r_12_race_67 {X : Ctx} (F : Fx X cX12_race RX12 5 5 0 0) {I A : Nat → Nat → Int32} {J : Nat → Nat → Int64} {x1 x2 : Int32}
    (e_1 : WA X (mS I A J) plM 0 0 75 [(0, .ref 0), (1, .int x1), (2, .int x2)] [.ref 67, .int 12, .int x1, .ref 0]) :
    WA X (mS I A J) plM 0 0 67 [(0, .ref 0), (1, .int x1), (2, .int x2)] [] := by
  refine a_aload_n F 0 dX12_race_67 rfl rfl ?_
  refine a_iload_n F 1 dX12_race_68 rfl rfl ?_
  refine a_bipush (v := 12) F dX12_race_69 (by decide) ?_
  refine a_aload_n F 0 dX12_race_71 rfl rfl ?_
  refine a_getr (b := 67) F fl_12_125 rfl (by decide) rfl rfl dX12_race_72 ?_
  exact e_1

theorem r_12_race_78 {X : Ctx} (F : Fx X cX12_race RX12 5 5 0 0) {I A : Nat → Nat → Int32} {J : Nat → Nat → Int64} {x1 x2 : Int32}
    (e_1 : WA X (mS I A J) plM 0 0 86 [(0, .ref 0), (1, .int x1), (2, .int x2)] [.ref 68, .int 12, .int x2, .ref 0]) :
    WA X (mS I A J) plM 0 0 78 [(0, .ref 0), (1, .int x1), (2, .int x2)] [] := by
  refine a_aload_n F 0 dX12_race_78 rfl rfl ?_
  refine a_iload_n F 2 dX12_race_79 rfl rfl ?_
  refine a_bipush (v := 12) F dX12_race_80 (by decide) ?_
  refine a_aload_n F 0 dX12_race_82 rfl rfl ?_
  refine a_getr (b := 68) F fl_12_128 rfl (by decide) rfl rfl dX12_race_83 ?_
  exact e_1

theorem r_12_race_89 {X : Ctx} (F : Fx X cX12_race RX12 5 5 0 0) {Φ : Option Value → HS → List Nat → Prop} (E : Ex X (some .int) 0 0 Φ) {I A : Nat → Nat → Int32} {J : Nat → Nat → Int64} {x1 x2 : Int32}
    (o_1 : vp_in 12 13)
    (o_2 : 0 ≤ (12 : Int32) ∧ (12 : Int32) ≤ 12)
    (o_3 : (¬ (lg_cmp (J 67 12) (lN (36 ^ (12 : Int32).toNatClampNeg))) = 0) → (I 0 0) = 0)
    (e_4 : (¬ (lg_cmp (J 67 12) (lN (36 ^ (12 : Int32).toNatClampNeg))) = 0) → Φ (some (.int 0)) (mS (up2 I 0 0 (2 : Int32)) A J) plM)
    (o_5 : ((lg_cmp (J 67 12) (lN (36 ^ (12 : Int32).toNatClampNeg))) = 0) → vp_in 12 13)
    (o_6 : ((lg_cmp (J 67 12) (lN (36 ^ (12 : Int32).toNatClampNeg))) = 0) → 0 ≤ (12 : Int32) ∧ (12 : Int32) ≤ 12)
    (o_7 : ((lg_cmp (J 67 12) (lN (36 ^ (12 : Int32).toNatClampNeg))) = 0) → (¬ (lg_cmp (J 68 12) (lN (36 ^ (12 : Int32).toNatClampNeg))) = 0) → (I 0 0) = 0)
    (e_8 : ((lg_cmp (J 67 12) (lN (36 ^ (12 : Int32).toNatClampNeg))) = 0) → (¬ (lg_cmp (J 68 12) (lN (36 ^ (12 : Int32).toNatClampNeg))) = 0) → Φ (some (.int 0)) (mS (up2 I 0 0 (2 : Int32)) A J) plM)
    (o_9 : ((lg_cmp (J 67 12) (lN (36 ^ (12 : Int32).toNatClampNeg))) = 0) → ((lg_cmp (J 68 12) (lN (36 ^ (12 : Int32).toNatClampNeg))) = 0) → (I 0 0) = 0)
    (o_10 : ((lg_cmp (J 67 12) (lN (36 ^ (12 : Int32).toNatClampNeg))) = 0) → ((lg_cmp (J 68 12) (lN (36 ^ (12 : Int32).toNatClampNeg))) = 0) → (¬ x1 = 0) → (I 0 0) = 0)
    (e_11 : ((lg_cmp (J 67 12) (lN (36 ^ (12 : Int32).toNatClampNeg))) = 0) → ((lg_cmp (J 68 12) (lN (36 ^ (12 : Int32).toNatClampNeg))) = 0) → (¬ x1 = 0) → WA X (mS I A J) plM 0 0 159 [(0, .ref 0), (1, .int x1), (2, .int x2), (3, .int 0)] [])
    (o_12 : ((lg_cmp (J 67 12) (lN (36 ^ (12 : Int32).toNatClampNeg))) = 0) → ((lg_cmp (J 68 12) (lN (36 ^ (12 : Int32).toNatClampNeg))) = 0) → (x1 = 0) → (x2 = 0) → (I 0 0) = 0)
    (e_13 : ((lg_cmp (J 67 12) (lN (36 ^ (12 : Int32).toNatClampNeg))) = 0) → ((lg_cmp (J 68 12) (lN (36 ^ (12 : Int32).toNatClampNeg))) = 0) → (x1 = 0) → (x2 = 0) → Φ (some (.int 0)) (mS (up2 I 0 0 (3 : Int32)) A J) plM)
    (o_14 : ((lg_cmp (J 67 12) (lN (36 ^ (12 : Int32).toNatClampNeg))) = 0) → ((lg_cmp (J 68 12) (lN (36 ^ (12 : Int32).toNatClampNeg))) = 0) → (x1 = 0) → (¬ (x2 = 0)) → (I 0 0) = 0)
    (e_15 : ((lg_cmp (J 67 12) (lN (36 ^ (12 : Int32).toNatClampNeg))) = 0) → ((lg_cmp (J 68 12) (lN (36 ^ (12 : Int32).toNatClampNeg))) = 0) → (x1 = 0) → (¬ (x2 = 0)) → WA X (mS I A J) plM 0 0 159 [(0, .ref 0), (1, .int x1), (2, .int x2), (3, .int 0)] []) :
    WA X (mS I A J) plM 0 0 89 [(0, .ref 0), (1, .int x1), (2, .int x2)] [] := by
  refine a_aload_n F 0 dX12_race_89 rfl rfl ?_
  refine a_aload_n F 0 dX12_race_90 rfl rfl ?_
  refine a_getr (b := 67) F fl_12_125 rfl (by decide) rfl rfl dX12_race_91 ?_
  refine a_bipush (v := 12) F dX12_race_94 (by decide) ?_
  refine a_lald F (by decide) rfl (o_1) dX12_race_96 ?_
  refine a_bipush (v := 12) F dX12_race_97 (by decide) ?_
  refine a_callS (As := [.int 12]) (st := [.long (J 67 12), .ref 0]) F (c_powI (xl X) I A J 12 (o_2)) ml_12_430 sm_yX12_power (by decide) rfl dX12_race_99 (Nat.le_of_ble_eq_true rfl) (Nat.le_refl 0) (Nat.le_refl 0) (hl_r (by decide) (hl_i (hl_i hl_nil))) (hs_l (hs_r (by decide) hs_nil)) ?_
  rintro _ _ _ ⟨rfl, rfl, rfl⟩ _
  show WA X (mS I A J) plM 0 0 102 [(0, .ref 0), (1, .int x1), (2, .int x2)] [.long (lN (36 ^ (12 : Int32).toNatClampNeg)), .long (J 67 12), .ref 0]
  refine a_lcmp F dX12_race_102 ?_
  refine a_if_ne (tgt := 126) F dX12_race_103 (by decide) (fun (c_19 : ¬ (lg_cmp (J 67 12) (lN (36 ^ (12 : Int32).toNatClampNeg))) = 0) => ?_) (fun (c_19 : (lg_cmp (J 67 12) (lN (36 ^ (12 : Int32).toNatClampNeg))) = 0) => ?_)
  · refine a_iconst (v := 0) F dX12_race_126 (by decide) ?_
    refine a_iconst (v := 2) F dX12_race_127 (by decide) ?_
    refine a_callV (b := 0) (As := [.int 0, .int 2]) (st := []) (ci := 12) F (c_may0 (xl X) I A J (2 : Int32) (by decide) (o_3 c_19)) ml_12_155 im_yX12_may se_yX12_may (by decide) (by decide) rfl (by decide) rfl rfl dX12_race_128 (by decide) (Nat.le_refl 0) (Nat.le_refl 0) (hl_r (by decide) (hl_i (hl_i hl_nil))) hs_nil ?_
    rintro _ _ _ ⟨rfl, rfl, rfl⟩ _
    show WA X (mS (up2 I 0 0 (2 : Int32)) A J) plM 0 0 131 [(0, .ref 0), (1, .int x1), (2, .int x2)] [.int 0]
    refine a_if_eq (tgt := 155) F dX12_race_131 (by decide) (fun (c_20 : (0 : Int32) = 0) => ?_) (fun (c_20 : ¬ ((0 : Int32) = 0)) => ?_)
    · refine a_iconst (v := 0) F dX12_race_155 (by decide) ?_
      exact a_iret F E dX12_race_156 (Nat.le_refl 0) (Nat.le_refl 0) (e_4 c_19)
    · exact absurd c_20 (by decide)
  · refine a_aload_n F 0 dX12_race_106 rfl rfl ?_
    refine a_getr (b := 68) F fl_12_128 rfl (by decide) rfl rfl dX12_race_107 ?_
    refine a_bipush (v := 12) F dX12_race_110 (by decide) ?_
    refine a_lald F (by decide) rfl (o_5 c_19) dX12_race_112 ?_
    refine a_bipush (v := 12) F dX12_race_113 (by decide) ?_
    refine a_callS (As := [.int 12]) (st := [.long (J 68 12), .ref 0]) F (c_powI (xl X) I A J 12 (o_6 c_19)) ml_12_430 sm_yX12_power (by decide) rfl dX12_race_115 (Nat.le_of_ble_eq_true rfl) (Nat.le_refl 0) (Nat.le_refl 0) (hl_r (by decide) (hl_i (hl_i hl_nil))) (hs_l (hs_r (by decide) hs_nil)) ?_
    rintro _ _ _ ⟨rfl, rfl, rfl⟩ _
    show WA X (mS I A J) plM 0 0 118 [(0, .ref 0), (1, .int x1), (2, .int x2)] [.long (lN (36 ^ (12 : Int32).toNatClampNeg)), .long (J 68 12), .ref 0]
    refine a_lcmp F dX12_race_118 ?_
    refine a_if_ne (tgt := 126) F dX12_race_119 (by decide) (fun (c_21 : ¬ (lg_cmp (J 68 12) (lN (36 ^ (12 : Int32).toNatClampNeg))) = 0) => ?_) (fun (c_21 : (lg_cmp (J 68 12) (lN (36 ^ (12 : Int32).toNatClampNeg))) = 0) => ?_)
    · refine a_iconst (v := 0) F dX12_race_126 (by decide) ?_
      refine a_iconst (v := 2) F dX12_race_127 (by decide) ?_
      refine a_callV (b := 0) (As := [.int 0, .int 2]) (st := []) (ci := 12) F (c_may0 (xl X) I A J (2 : Int32) (by decide) (o_7 c_19 c_21)) ml_12_155 im_yX12_may se_yX12_may (by decide) (by decide) rfl (by decide) rfl rfl dX12_race_128 (by decide) (Nat.le_refl 0) (Nat.le_refl 0) (hl_r (by decide) (hl_i (hl_i hl_nil))) hs_nil ?_
      rintro _ _ _ ⟨rfl, rfl, rfl⟩ _
      show WA X (mS (up2 I 0 0 (2 : Int32)) A J) plM 0 0 131 [(0, .ref 0), (1, .int x1), (2, .int x2)] [.int 0]
      refine a_if_eq (tgt := 155) F dX12_race_131 (by decide) (fun (c_22 : (0 : Int32) = 0) => ?_) (fun (c_22 : ¬ ((0 : Int32) = 0)) => ?_)
      · refine a_iconst (v := 0) F dX12_race_155 (by decide) ?_
        exact a_iret F E dX12_race_156 (Nat.le_refl 0) (Nat.le_refl 0) (e_8 c_19 c_21)
      · exact absurd c_22 (by decide)
    · refine a_iconst (v := 1) F dX12_race_122 (by decide) ?_
      refine a_goto (tgt := 127) F dX12_race_123 (by decide) ?_
      refine a_iconst (v := 2) F dX12_race_127 (by decide) ?_
      refine a_callV (b := 0) (As := [.int 1, .int 2]) (st := []) (ci := 12) F (c_may1 (xl X) I A J (2 : Int32) (by decide) (o_9 c_19 c_21)) ml_12_155 im_yX12_may se_yX12_may (by decide) (by decide) rfl (by decide) rfl rfl dX12_race_128 (by decide) (Nat.le_refl 0) (Nat.le_refl 0) (hl_r (by decide) (hl_i (hl_i hl_nil))) hs_nil ?_
      rintro _ _ _ ⟨rfl, rfl, rfl⟩ _
      show WA X (mS I A J) plM 0 0 131 [(0, .ref 0), (1, .int x1), (2, .int x2)] [.int 1]
      refine a_if_eq (tgt := 155) F dX12_race_131 (by decide) (fun (c_23 : (1 : Int32) = 0) => ?_) (fun (c_23 : ¬ ((1 : Int32) = 0)) => ?_)
      · exact absurd c_23 (by decide)
      · refine a_aload_n F 0 dX12_race_134 rfl rfl ?_
        refine a_iload_n F 1 dX12_race_135 rfl rfl ?_
        refine a_if_ne (tgt := 143) F dX12_race_136 (by decide) (fun (c_24 : ¬ x1 = 0) => ?_) (fun (c_24 : x1 = 0) => ?_)
        · refine a_iconst (v := 1) F dX12_race_143 (by decide) ?_
          refine a_goto (tgt := 148) F dX12_race_144 (by decide) ?_
          refine a_iconst (v := 3) F dX12_race_148 (by decide) ?_
          refine a_callV (b := 0) (As := [.int 1, .int 3]) (st := []) (ci := 12) F (c_may1 (xl X) I A J (3 : Int32) (by decide) (o_10 c_19 c_21 c_24)) ml_12_155 im_yX12_may se_yX12_may (by decide) (by decide) rfl (by decide) rfl rfl dX12_race_149 (by decide) (Nat.le_refl 0) (Nat.le_refl 0) (hl_r (by decide) (hl_i (hl_i hl_nil))) hs_nil ?_
          rintro _ _ _ ⟨rfl, rfl, rfl⟩ _
          show WA X (mS I A J) plM 0 0 152 [(0, .ref 0), (1, .int x1), (2, .int x2)] [.int 1]
          refine a_if_ne (tgt := 157) F dX12_race_152 (by decide) (fun (c_25 : ¬ (1 : Int32) = 0) => ?_) (fun (c_25 : (1 : Int32) = 0) => ?_)
          · refine a_iconst (v := 0) F dX12_race_157 (by decide) ?_
            refine a_istore_n F dX12_race_158 rfl (by decide) rfl ?_
            refine a_sub [1, 2, 3, 0] rfl ?_
            exact e_11 c_19 c_21 c_24
          · exact absurd c_25 (by decide)
        · refine a_iload_n F 2 dX12_race_139 rfl rfl ?_
          refine a_if_eq (tgt := 147) F dX12_race_140 (by decide) (fun (c_26 : x2 = 0) => ?_) (fun (c_26 : ¬ (x2 = 0)) => ?_)
          · refine a_iconst (v := 0) F dX12_race_147 (by decide) ?_
            refine a_iconst (v := 3) F dX12_race_148 (by decide) ?_
            refine a_callV (b := 0) (As := [.int 0, .int 3]) (st := []) (ci := 12) F (c_may0 (xl X) I A J (3 : Int32) (by decide) (o_12 c_19 c_21 c_24 c_26)) ml_12_155 im_yX12_may se_yX12_may (by decide) (by decide) rfl (by decide) rfl rfl dX12_race_149 (by decide) (Nat.le_refl 0) (Nat.le_refl 0) (hl_r (by decide) (hl_i (hl_i hl_nil))) hs_nil ?_
            rintro _ _ _ ⟨rfl, rfl, rfl⟩ _
            show WA X (mS (up2 I 0 0 (3 : Int32)) A J) plM 0 0 152 [(0, .ref 0), (1, .int x1), (2, .int x2)] [.int 0]
            refine a_if_ne (tgt := 157) F dX12_race_152 (by decide) (fun (c_27 : ¬ (0 : Int32) = 0) => ?_) (fun (c_27 : (0 : Int32) = 0) => ?_)
            · exact absurd c_27 (by decide)
            · refine a_iconst (v := 0) F dX12_race_155 (by decide) ?_
              exact a_iret F E dX12_race_156 (Nat.le_refl 0) (Nat.le_refl 0) (e_13 c_19 c_21 c_24 c_26)
          · refine a_iconst (v := 1) F dX12_race_143 (by decide) ?_
            refine a_goto (tgt := 148) F dX12_race_144 (by decide) ?_
            refine a_iconst (v := 3) F dX12_race_148 (by decide) ?_
            refine a_callV (b := 0) (As := [.int 1, .int 3]) (st := []) (ci := 12) F (c_may1 (xl X) I A J (3 : Int32) (by decide) (o_14 c_19 c_21 c_24 c_26)) ml_12_155 im_yX12_may se_yX12_may (by decide) (by decide) rfl (by decide) rfl rfl dX12_race_149 (by decide) (Nat.le_refl 0) (Nat.le_refl 0) (hl_r (by decide) (hl_i (hl_i hl_nil))) hs_nil ?_
            rintro _ _ _ ⟨rfl, rfl, rfl⟩ _
            show WA X (mS I A J) plM 0 0 152 [(0, .ref 0), (1, .int x1), (2, .int x2)] [.int 1]
            refine a_if_ne (tgt := 157) F dX12_race_152 (by decide) (fun (c_28 : ¬ (1 : Int32) = 0) => ?_) (fun (c_28 : (1 : Int32) = 0) => ?_)
            · refine a_iconst (v := 0) F dX12_race_157 (by decide) ?_
              refine a_istore_n F dX12_race_158 rfl (by decide) rfl ?_
              refine a_sub [1, 2, 3, 0] rfl ?_
              exact e_15 c_19 c_21 c_24 c_26
            · exact absurd c_28 (by decide)

theorem r_12_race_159 {X : Ctx} (F : Fx X cX12_race RX12 5 5 0 0) {I A : Nat → Nat → Int32} {J : Nat → Nat → Int64} {x1 x2 x3 : Int32}
    (e_1 : (12 ≤ x3) → WA X (mS I A J) plM 0 0 180 [(0, .ref 0), (1, .int x1), (2, .int x2), (3, .int 1)] [])
    (o_2 : (¬ (12 ≤ x3)) → vp_in x3 12)
    (e_3 : (¬ (12 ≤ x3)) → WA X (mS I (up1 A 73 (upd (A 73) x3.toNatClampNeg 0)) J) plM 0 0 159 [(0, .ref 0), (1, .int x1), (2, .int x2), (3, .int (x3 + 1))] []) :
    WA X (mS I A J) plM 0 0 159 [(0, .ref 0), (1, .int x1), (2, .int x2), (3, .int x3)] [] := by
  refine a_iload_n F 3 dX12_race_159 rfl rfl ?_
  refine a_bipush (v := 12) F dX12_race_160 (by decide) ?_
  refine a_icmp_ge (tgt := 178) F dX12_race_162 (by decide) (fun (c_29 : 12 ≤ x3) => ?_) (fun (c_29 : ¬ (12 ≤ x3)) => ?_)
  · refine a_iconst (v := 1) F dX12_race_178 (by decide) ?_
    refine a_istore_n F dX12_race_179 rfl (by decide) rfl ?_
    refine a_sub [1, 2, 3, 0] rfl ?_
    exact e_1 c_29
  · refine a_aload_n F 0 dX12_race_165 rfl rfl ?_
    refine a_getr (b := 73) F fl_12_143 rfl (by decide) rfl rfl dX12_race_166 ?_
    refine a_iload_n F 3 dX12_race_169 rfl rfl ?_
    refine a_iconst (v := 0) F dX12_race_170 (by decide) ?_
    refine a_iast F (by decide) rfl (o_2 c_29) dX12_race_171 ?_
    refine a_iinc (v := x3 + 1) F 3 dX12_race_172 rfl rfl (by decide) rfl ?_
    refine a_goto (tgt := 159) F dX12_race_175 (by decide) ?_
    refine a_sub [1, 2, 3, 0] rfl ?_
    exact e_3 c_29

theorem r_12_race_180 {X : Ctx} (F : Fx X cX12_race RX12 5 5 0 0) {I A : Nat → Nat → Int32} {J : Nat → Nat → Int64} {x1 x2 x3 : Int32}
    (e_1 : (12 < x3) → WA X (mS I A J) plM 0 0 281 [(0, .ref 0), (1, .int x1), (2, .int x2), (3, .int 0)] [])
    (o_2 : (¬ (12 < x3)) → vp_in x3 13)
    (o_3 : (¬ (12 < x3)) → vp_in (x3 - 1) 13)
    (o_4 : (¬ (12 < x3)) → ¬ (((J 67 x3.toNatClampNeg) - (36 * (J 67 (x3 - 1).toNatClampNeg))) : Int64) < 0)
    (e_5 : (¬ (12 < x3)) → WA X (mS I (up1 A 71 (putR (A 71) 12 (((J 67 x3.toNatClampNeg) - (36 * (J 67 (x3 - 1).toNatClampNeg))) : Int64).toNatClampNeg)) J) plM 0 0 212 [(0, .ref 0), (1, .int x1), (2, .int x2), (3, .int x3)] []) :
    WA X (mS I A J) plM 0 0 180 [(0, .ref 0), (1, .int x1), (2, .int x2), (3, .int x3)] [] := by
  refine a_iload_n F 3 dX12_race_180 rfl rfl ?_
  refine a_bipush (v := 12) F dX12_race_181 (by decide) ?_
  refine a_icmp_gt (tgt := 279) F dX12_race_183 (by decide) (fun (c_30 : 12 < x3) => ?_) (fun (c_30 : ¬ (12 < x3)) => ?_)
  · refine a_iconst (v := 0) F dX12_race_279 (by decide) ?_
    refine a_istore_n F dX12_race_280 rfl (by decide) rfl ?_
    refine a_sub [1, 2, 3, 0] rfl ?_
    exact e_1 c_30
  · refine a_aload_n F 0 dX12_race_186 rfl rfl ?_
    refine a_getr (b := 71) F fl_12_137 rfl (by decide) rfl rfl dX12_race_187 ?_
    refine a_aload_n F 0 dX12_race_190 rfl rfl ?_
    refine a_getr (b := 67) F fl_12_125 rfl (by decide) rfl rfl dX12_race_191 ?_
    refine a_iload_n F 3 dX12_race_194 rfl rfl ?_
    refine a_lald F (by decide) rfl (o_2 c_30) dX12_race_195 ?_
    refine a_ldc2 F kc_12_420 dX12_race_196 ?_
    refine a_aload_n F 0 dX12_race_199 rfl rfl ?_
    refine a_getr (b := 67) F fl_12_125 rfl (by decide) rfl rfl dX12_race_200 ?_
    refine a_iload_n F 3 dX12_race_203 rfl rfl ?_
    refine a_iconst (v := 1) F dX12_race_204 (by decide) ?_
    refine a_isub F dX12_race_205 ?_
    refine a_lald F (by decide) rfl (o_3 c_30) dX12_race_206 ?_
    refine a_lmul F dX12_race_207 ?_
    refine a_lsub F dX12_race_208 ?_
    refine a_callS (As := [.ref 71, .long ((J 67 x3.toNatClampNeg) - (36 * (J 67 (x3 - 1).toNatClampNeg)))]) (st := []) F (c_putL (xl X) I A J 71 ((J 67 x3.toNatClampNeg) - (36 * (J 67 (x3 - 1).toNatClampNeg))) (by decide) rfl (by decide) (o_4 c_30)) ml_12_426 sm_yX12_put (by decide) rfl dX12_race_209 (by decide) (Nat.le_refl 0) (Nat.le_refl 0) (hl_r (by decide) (hl_i (hl_i (hl_i hl_nil)))) hs_nil ?_
    rintro _ _ _ ⟨rfl, rfl, rfl⟩ _
    show WA X (mS I (up1 A 71 (putR (A 71) 12 (((J 67 x3.toNatClampNeg) - (36 * (J 67 (x3 - 1).toNatClampNeg))) : Int64).toNatClampNeg)) J) plM 0 0 212 [(0, .ref 0), (1, .int x1), (2, .int x2), (3, .int x3)] []
    exact e_5 c_30

theorem r_12_race_212 {X : Ctx} (F : Fx X cX12_race RX12 5 5 0 0) {I A : Nat → Nat → Int32} {J : Nat → Nat → Int64} {x1 x2 x3 : Int32}
    (o_1 : 0 ≤ (x3 - 1) ∧ (x3 - 1) ≤ 12)
    (o_2 : vp_in (x3 - 1) 13)
    (o_3 : ¬ (((lN (36 ^ (x3 - 1).toNatClampNeg)) - (J 68 (x3 - 1).toNatClampNeg)) : Int64) < 0)
    (e_4 : WA X (mS I (up1 A 72 (putR (A 72) 12 (((lN (36 ^ (x3 - 1).toNatClampNeg)) - (J 68 (x3 - 1).toNatClampNeg)) : Int64).toNatClampNeg)) J) plM 0 0 234 [(0, .ref 0), (1, .int x1), (2, .int x2), (3, .int x3)] []) :
    WA X (mS I A J) plM 0 0 212 [(0, .ref 0), (1, .int x1), (2, .int x2), (3, .int x3)] [] := by
  refine a_aload_n F 0 dX12_race_212 rfl rfl ?_
  refine a_getr (b := 72) F fl_12_140 rfl (by decide) rfl rfl dX12_race_213 ?_
  refine a_iload_n F 3 dX12_race_216 rfl rfl ?_
  refine a_iconst (v := 1) F dX12_race_217 (by decide) ?_
  refine a_isub F dX12_race_218 ?_
  refine a_callS (As := [.int (x3 - 1)]) (st := [.ref 72]) F (c_powI (xl X) I A J (x3 - 1) (o_1)) ml_12_430 sm_yX12_power (by decide) rfl dX12_race_219 (Nat.le_of_ble_eq_true rfl) (Nat.le_refl 0) (Nat.le_refl 0) (hl_r (by decide) (hl_i (hl_i (hl_i hl_nil)))) (hs_r (by decide) hs_nil) ?_
  rintro _ _ _ ⟨rfl, rfl, rfl⟩ _
  show WA X (mS I A J) plM 0 0 222 [(0, .ref 0), (1, .int x1), (2, .int x2), (3, .int x3)] [.long (lN (36 ^ (x3 - 1).toNatClampNeg)), .ref 72]
  refine a_aload_n F 0 dX12_race_222 rfl rfl ?_
  refine a_getr (b := 68) F fl_12_128 rfl (by decide) rfl rfl dX12_race_223 ?_
  refine a_iload_n F 3 dX12_race_226 rfl rfl ?_
  refine a_iconst (v := 1) F dX12_race_227 (by decide) ?_
  refine a_isub F dX12_race_228 ?_
  refine a_lald F (by decide) rfl (o_2) dX12_race_229 ?_
  refine a_lsub F dX12_race_230 ?_
  refine a_callS (As := [.ref 72, .long ((lN (36 ^ (x3 - 1).toNatClampNeg)) - (J 68 (x3 - 1).toNatClampNeg))]) (st := []) F (c_putL (xl X) I A J 72 ((lN (36 ^ (x3 - 1).toNatClampNeg)) - (J 68 (x3 - 1).toNatClampNeg)) (by decide) rfl (by decide) (o_3)) ml_12_426 sm_yX12_put (by decide) rfl dX12_race_231 (by decide) (Nat.le_refl 0) (Nat.le_refl 0) (hl_r (by decide) (hl_i (hl_i (hl_i hl_nil)))) hs_nil ?_
  rintro _ _ _ ⟨rfl, rfl, rfl⟩ _
  show WA X (mS I (up1 A 72 (putR (A 72) 12 (((lN (36 ^ (x3 - 1).toNatClampNeg)) - (J 68 (x3 - 1).toNatClampNeg)) : Int64).toNatClampNeg)) J) plM 0 0 234 [(0, .ref 0), (1, .int x1), (2, .int x2), (3, .int x3)] []
  exact e_4

theorem r_12_race_234 {X : Ctx} (F : Fx X cX12_race RX12 5 5 0 0) {I A : Nat → Nat → Int32} {J : Nat → Nat → Int64} {x1 x2 x3 : Int32}
    (e_1 : WA X (mS I A J) plM 0 0 239 [(0, .ref 0), (1, .int x1), (2, .int x2), (3, .int x3), (4, .int (2 * x3))] []) :
    WA X (mS I A J) plM 0 0 234 [(0, .ref 0), (1, .int x1), (2, .int x2), (3, .int x3)] [] := by
  refine a_iconst (v := 2) F dX12_race_234 (by decide) ?_
  refine a_iload_n F 3 dX12_race_235 rfl rfl ?_
  refine a_imul F dX12_race_236 ?_
  refine a_istore F dX12_race_237 (by decide) rfl ?_
  refine a_sub [1, 2, 3, 4, 0] rfl ?_
  exact e_1

theorem r_12_race_239 {X : Ctx} (F : Fx X cX12_race RX12 5 5 0 0) {I A : Nat → Nat → Int32} {J : Nat → Nat → Int64} {x1 x2 x3 x4 : Int32}
    (e_1 : (24 ≤ x4) → WA X (mS I A J) plM 0 0 261 [(0, .ref 0), (1, .int x1), (2, .int x2), (3, .int x3), (4, .int x4)] [])
    (o_2 : (¬ (24 ≤ x4)) → digV (A 72) 12)
    (o_3 : (¬ (24 ≤ x4)) → 1 ≤ (36 : Int32) ∧ (36 : Int32) ≤ 64)
    (e_4 : (¬ (24 ≤ x4)) → WA X (mS I (up1 A 72 (putR (A 72) 12 (valR (A 72) 12 * (36 : Int32).toNatClampNeg))) J) plM 0 0 239 [(0, .ref 0), (1, .int x1), (2, .int x2), (3, .int x3), (4, .int (x4 + 1))] []) :
    WA X (mS I A J) plM 0 0 239 [(0, .ref 0), (1, .int x1), (2, .int x2), (3, .int x3), (4, .int x4)] [] := by
  refine a_iload F 4 dX12_race_239 rfl ?_
  refine a_bipush (v := 24) F dX12_race_241 (by decide) ?_
  refine a_icmp_ge (tgt := 261) F dX12_race_243 (by decide) (fun (c_31 : 24 ≤ x4) => ?_) (fun (c_31 : ¬ (24 ≤ x4)) => ?_)
  · exact e_1 c_31
  · refine a_aload_n F 0 dX12_race_246 rfl rfl ?_
    refine a_getr (b := 72) F fl_12_140 rfl (by decide) rfl rfl dX12_race_247 ?_
    refine a_bipush (v := 36) F dX12_race_250 (by decide) ?_
    refine a_callS (As := [.ref 72, .int 36]) (st := []) F (c_timesI (xl X) I A J 72 (36 : Int32) (by decide) rfl (by decide) (o_2 c_31) (o_3 c_31)) ml_12_353 sm_yX12_times (by decide) rfl dX12_race_252 (by decide) (Nat.le_refl 0) (Nat.le_refl 0) (hl_r (by decide) (hl_i (hl_i (hl_i (hl_i hl_nil))))) hs_nil ?_
    rintro _ _ _ ⟨rfl, rfl, rfl⟩ _
    show WA X (mS I (up1 A 72 (putR (A 72) 12 (valR (A 72) 12 * (36 : Int32).toNatClampNeg))) J) plM 0 0 255 [(0, .ref 0), (1, .int x1), (2, .int x2), (3, .int x3), (4, .int x4)] []
    refine a_iinc (v := x4 + 1) F 4 dX12_race_255 rfl rfl (by decide) rfl ?_
    refine a_goto (tgt := 239) F dX12_race_258 (by decide) ?_
    refine a_sub [1, 2, 3, 4, 0] rfl ?_
    exact e_4 c_31

theorem r_12_race_261 {X : Ctx} (F : Fx X cX12_race RX12 5 5 0 0) {I A : Nat → Nat → Int32} {J : Nat → Nat → Int64} {x1 x2 x3 x4 : Int32}
    (o_1 : digV (A 71) 12)
    (o_2 : digV (A 72) 12)
    (o_3 : digV (A 73) 12)
    (e_4 : WA X (mS I (up1 A 73 (putR (A 73) 12 (valR (A 73) 12 + valR (A 71) 12 * valR (A 72) 12))) J) plM 0 0 273 [(0, .ref 0), (1, .int x1), (2, .int x2), (3, .int x3), (4, .int x4)] []) :
    WA X (mS I A J) plM 0 0 261 [(0, .ref 0), (1, .int x1), (2, .int x2), (3, .int x3), (4, .int x4)] [] := by
  refine a_aload_n F 0 dX12_race_261 rfl rfl ?_
  refine a_aload_n F 0 dX12_race_262 rfl rfl ?_
  refine a_getr (b := 71) F fl_12_137 rfl (by decide) rfl rfl dX12_race_263 ?_
  refine a_aload_n F 0 dX12_race_266 rfl rfl ?_
  refine a_getr (b := 72) F fl_12_140 rfl (by decide) rfl rfl dX12_race_267 ?_
  refine a_callV (b := 0) (As := [.ref 71, .ref 72]) (st := []) (ci := 12) F (c_addProduct (xl X) I A J 71 72 (by decide) rfl rfl (by decide) rfl rfl (by decide) (by decide) (o_1) (o_2) (o_3)) ml_12_434 im_yX12_addProduct se_yX12_addProduct (by decide) (by decide) rfl (by decide) rfl rfl dX12_race_270 (by decide) (Nat.le_refl 0) (Nat.le_refl 0) (hl_r (by decide) (hl_i (hl_i (hl_i (hl_i hl_nil))))) hs_nil ?_
  rintro _ _ _ ⟨rfl, rfl, rfl⟩ _
  show WA X (mS I (up1 A 73 (putR (A 73) 12 (valR (A 73) 12 + valR (A 71) 12 * valR (A 72) 12))) J) plM 0 0 273 [(0, .ref 0), (1, .int x1), (2, .int x2), (3, .int x3), (4, .int x4)] []
  exact e_4

theorem r_12_race_273 {X : Ctx} (F : Fx X cX12_race RX12 5 5 0 0) {I A : Nat → Nat → Int32} {J : Nat → Nat → Int64} {x1 x2 x3 x4 : Int32}
    (e_1 : WA X (mS I A J) plM 0 0 180 [(0, .ref 0), (1, .int x1), (2, .int x2), (3, .int (x3 + 1))] []) :
    WA X (mS I A J) plM 0 0 273 [(0, .ref 0), (1, .int x1), (2, .int x2), (3, .int x3), (4, .int x4)] [] := by
  refine a_iinc (v := x3 + 1) F 3 dX12_race_273 rfl rfl (by decide) rfl ?_
  refine a_goto (tgt := 180) F dX12_race_276 (by decide) ?_
  refine a_sub [1, 2, 3, 0] rfl ?_
  exact e_1

theorem r_12_race_281 {X : Ctx} (F : Fx X cX12_race RX12 5 5 0 0) {I A : Nat → Nat → Int32} {J : Nat → Nat → Int64} {x1 x2 x3 : Int32}
    (e_1 : (12 ≤ x3) → (¬ x1 = 0) → WA X (mS I A J) plM 0 0 326 [(0, .ref 0), (1, .int x1), (2, .int x2), (3, .int x3)] [.int 23, .ref 0])
    (o_2 : (12 ≤ x3) → (x1 = 0) → ¬ (1 : Int64) < 0)
    (e_3 : (12 ≤ x3) → (x1 = 0) → WA X (mS I (up1 A 62 (putR (A 62) 12 (1 : Int64).toNatClampNeg)) J) plM 0 0 319 [(0, .ref 0), (1, .int x1), (2, .int x2), (3, .int x3)] [.int 0, .ref 0])
    (o_4 : (¬ (12 ≤ x3)) → vp_in x3 12)
    (o_5 : (¬ (12 ≤ x3)) → vp_in x3 12)
    (e_6 : (¬ (12 ≤ x3)) → WA X (mS I (up1 A 62 (upd (A 62) x3.toNatClampNeg (A 73 x3.toNatClampNeg))) J) plM 0 0 281 [(0, .ref 0), (1, .int x1), (2, .int x2), (3, .int (x3 + 1))] []) :
    WA X (mS I A J) plM 0 0 281 [(0, .ref 0), (1, .int x1), (2, .int x2), (3, .int x3)] [] := by
  refine a_iload_n F 3 dX12_race_281 rfl rfl ?_
  refine a_bipush (v := 12) F dX12_race_282 (by decide) ?_
  refine a_icmp_ge (tgt := 305) F dX12_race_284 (by decide) (fun (c_32 : 12 ≤ x3) => ?_) (fun (c_32 : ¬ (12 ≤ x3)) => ?_)
  · refine a_iload_n F 1 dX12_race_305 rfl rfl ?_
    refine a_if_ne (tgt := 323) F dX12_race_306 (by decide) (fun (c_33 : ¬ x1 = 0) => ?_) (fun (c_33 : x1 = 0) => ?_)
    · refine a_aload_n F 0 dX12_race_323 rfl rfl ?_
      refine a_bipush (v := 23) F dX12_race_324 (by decide) ?_
      exact e_1 c_32 c_33
    · refine a_aload_n F 0 dX12_race_309 rfl rfl ?_
      refine a_getr (b := 62) F fl_12_109 rfl (by decide) rfl rfl dX12_race_310 ?_
      refine a_lconst (v := 1) F dX12_race_313 (by decide) ?_
      refine a_callS (As := [.ref 62, .long 1]) (st := []) F (c_putL (xl X) I A J 62 1 (by decide) rfl (by decide) (o_2 c_32 c_33)) ml_12_426 sm_yX12_put (by decide) rfl dX12_race_314 (by decide) (Nat.le_refl 0) (Nat.le_refl 0) (hl_r (by decide) (hl_i (hl_i (hl_i hl_nil)))) hs_nil ?_
      rintro _ _ _ ⟨rfl, rfl, rfl⟩ _
      show WA X (mS I (up1 A 62 (putR (A 62) 12 (1 : Int64).toNatClampNeg)) J) plM 0 0 317 [(0, .ref 0), (1, .int x1), (2, .int x2), (3, .int x3)] []
      refine a_aload_n F 0 dX12_race_317 rfl rfl ?_
      refine a_iconst (v := 0) F dX12_race_318 (by decide) ?_
      exact e_3 c_32 c_33
  · refine a_aload_n F 0 dX12_race_287 rfl rfl ?_
    refine a_getr (b := 62) F fl_12_109 rfl (by decide) rfl rfl dX12_race_288 ?_
    refine a_iload_n F 3 dX12_race_291 rfl rfl ?_
    refine a_aload_n F 0 dX12_race_292 rfl rfl ?_
    refine a_getr (b := 73) F fl_12_143 rfl (by decide) rfl rfl dX12_race_293 ?_
    refine a_iload_n F 3 dX12_race_296 rfl rfl ?_
    refine a_iald F (by decide) rfl (o_4 c_32) dX12_race_297 ?_
    refine a_iast F (by decide) rfl (o_5 c_32) dX12_race_298 ?_
    refine a_iinc (v := x3 + 1) F 3 dX12_race_299 rfl rfl (by decide) rfl ?_
    refine a_goto (tgt := 281) F dX12_race_302 (by decide) ?_
    refine a_sub [1, 2, 3, 0] rfl ?_
    exact e_6 c_32

set_option maxRecDepth 10000 in
theorem c_race (l : Launch) (I A : Nat → Nat → Int32) (J : Nat → Nat → Int64) (x y : Int32) (L : Nat) (hb : boS I A L) (hj : joS J) : Con l 5 yX12_race cX12_race 5 (some .int) [.ref 0, .int x, .int y] (mS I A J) plM 0 0 (racQ I A J x y L) := by
  refine Con.of (by decide) (Nat.le_of_ble_eq_true rfl) (fun X hX9 hn9 F E => ?_)
  have hL := hb.2.1
  have bad : ∀ {rv σ' pl'}, ¬ (stdI x ∧ stdI y) → rv = some (.int 0) → σ' = mS (up2 (up2 I 0 0 0) 0 0 1) A J → pl' = plM → racQ I A J x y L rv σ' pl' := fun h h1 h2 h3 => ⟨fun _ => ⟨h1, by rw [h2, up2_up2], h3⟩, fun z => absurd z h, fun z1 z2 => absurd ⟨z1.1, z2.1⟩ h, fun z1 z2 => absurd ⟨z1.1, z2.1⟩ h, fun z1 z2 => absurd ⟨z1.1, z2.1⟩ h⟩
  have kn : ∀ {x : Int32}, stdI x → (nI (pipS x.toNatClampNeg) ≤ I 0 55 ↔ pipS x.toNatClampNeg ≤ L) := fun {x} h => by
    obtain ⟨s, hs, rfl⟩ := std_of h
    have h6 : s < 16777216 := hs.1
    have hp90 := pip_90 hs
    rw [nI_clamp (by omega), hb.1]; exact nI_leI (by omega) (by omega)
  have unk : ∀ {rv σ' pl'}, stdI x → stdI y → ¬ (pipS x.toNatClampNeg ≤ L ∧ pipS y.toNatClampNeg ≤ L) → rv = some (.int 0) → σ' = mS (up2 (up2 I 0 0 0) 0 0 2) A J → pl' = plM → racQ I A J x y L rv σ' pl' := fun g1 g2 h h1 h2 h3 => ⟨fun z => absurd ⟨g1, g2⟩ z, fun _ _ => ⟨h1, by rw [h2, up2_up2], h3⟩, fun z1 z2 => absurd ⟨z1.2, z2.2⟩ h, fun z1 z2 => absurd ⟨z1.2, z2.2⟩ h, fun z1 z2 => absurd ⟨z1.2, z2.2⟩ h⟩
  refine r_12_race_0 F E (fun h _ => h.1) (fun _ h _ => h.1) (fun h1 h2 h3 h4 => ?_) (fun h1 h2 _ h4 => unk h1 h2 (fun z => h4 ((kn h2).mpr z.2)) rfl rfl rfl) (fun h1 h2 h3 => unk h1 h2 (fun z => h3 ((kn h1).mpr z.1)) rfl rfl rfl) (fun _ h => bad (fun z => h z.2) rfl rfl rfl) (fun h => bad (fun z => h z.1) rfl rfl rfl)
  have hx0 := (kn h1).mp h3
  have hy0 := (kn h2).mp h4
  clear bad unk kn h3 h4
  obtain ⟨s, hs, rfl⟩ := std_of h1
  obtain ⟨t, ht, rfl⟩ := std_of h2
  have s6 : s < 16777216 := hs.1
  have t6 : t < 16777216 := ht.1
  rw [nI_clamp (by omega)] at hx0 hy0
  have c0 : racQ I A J (nI s) (nI t) L = fun rv σ' pl' => racQ I A J (nI s) (nI t) L rv σ' pl' := rfl
  have good : ∀ {rv σ' pl'}, ((¬ (wN 12 s = 36 ^ 12 ∧ wN 12 t = 36 ^ 12) → rfQ I A 2 L rv σ' pl') ∧ (wN 12 s = 36 ^ 12 ∧ wN 12 t = 36 ^ 12 → s = 0 ∧ t = 0 → rfQ I A 3 L rv σ' pl') ∧ (wN 12 s = 36 ^ 12 ∧ wN 12 t = 36 ^ 12 → ¬ (s = 0 ∧ t = 0) → pgQ I A J (if s = 0 then 1 else raS s t) (if s = 0 then 0 else 23) L rv σ' pl')) → racQ I A J (nI s) (nI t) L rv σ' pl' := fun {rv σ' pl'} h => by
    have e1 : sure (nI s) ↔ wN 12 s = 36 ^ 12 := by unfold sure; rw [nI_clamp (by omega)]
    have e2 : sure (nI t) ↔ wN 12 t = 36 ^ 12 := by unfold sure; rw [nI_clamp (by omega)]
    have z1 : nI s = 0 ↔ s = 0 := nI_z (by omega)
    have z2 : nI t = 0 ↔ t = 0 := nI_z (by omega)
    refine ⟨fun z => absurd ⟨h1, h2⟩ z, fun _ z => absurd (by rw [nI_clamp (by omega), nI_clamp (by omega)]; exact ⟨hx0, hy0⟩) z, fun _ _ z => h.1 (fun y => z ⟨e1.mpr y.1, e2.mpr y.2⟩), fun _ _ z y => h.2.1 ⟨e1.mp z.1, e2.mp z.2⟩ ⟨z1.mp y.1, z2.mp y.2⟩, fun _ _ z y => ?_⟩
    have := h.2.2 ⟨e1.mp z.1, e2.mp z.2⟩ (fun w => y ⟨z1.mpr w.1, z2.mpr w.2⟩)
    unfold raU raP
    rw [nI_clamp (by omega), nI_clamp (by omega)]
    by_cases c : s = 0
    · rw [if_pos (z1.mpr c), if_pos (z1.mpr c)]; rw [if_pos c, if_pos c] at this; exact this
    · rw [if_neg (fun w => c (z1.mp w)), if_neg (fun w => c (z1.mp w))]; rw [if_neg c, if_neg c] at this; exact this
  refine a_callV (b := 0) (As := []) (st := []) (ci := 12) F (c_ready (xl X) (up2 I 0 0 0) A J (bo_56 hb)) ml_12_369 im_yX12_ready se_yX12_ready (by decide) (by decide) rfl (by decide) rfl rfl dX12_race_64 (by decide) (Nat.le_refl 0) (Nat.le_refl 0) (hl_r (by decide) (hl_i (hl_i hl_nil))) hs_nil ?_
  rintro _ _ _ ⟨I0, A0, rfl, rfl, rfl, hr0, k1, k2, k3⟩ _
  have hb0 := bo_rdy hb hr0 k1 k2 k3
  have fI : ∀ k, k ≠ 0 → k ≠ 56 → I0 0 k = I 0 k := fun k q1 q2 => by rw [k1 k (by omega), u2n q1]
  have z0 : I0 0 0 = 0 := by rw [k1 0 (by decide)]; exact u2s
  show WA X (mS I0 A0 J) plM 0 0 67 [(0, .ref 0), (1, .int (nI s)), (2, .int (nI t))] []
  refine r_12_race_67 F ?_
  refine a_callV (b := 0) (As := [.int (nI s), .int (nI 12), .ref 67]) (st := []) (ci := 12) F (c_follow (xl X) I0 A0 J s 12 L 67 hs hx0 (by omega) (Or.inl rfl) hr0.2.1 hb0.2.2.2 hj) ml_12_422 im_yX12_follow se_yX12_follow (by decide) (by decide) rfl (by decide) rfl rfl dX12_race_75 (by decide) (Nat.le_refl 0) (Nat.le_refl 0) (hl_r (by decide) (hl_i (hl_i hl_nil))) hs_nil ?_
  rintro _ _ _ ⟨A1, J1, rfl, rfl, rfl, w1, w2, w3, w4⟩ _
  show WA X (mS I0 A1 J1) plM 0 0 78 [(0, .ref 0), (1, .int (nI s)), (2, .int (nI t))] []
  refine r_12_race_78 F ?_
  refine a_callV (b := 0) (As := [.int (nI t), .int (nI 12), .ref 68]) (st := []) (ci := 12) F (c_follow (xl X) I0 A1 J1 t 12 L 68 ht hy0 (by omega) (Or.inr rfl) (by rw [w1 52 (by decide) (by decide)]; exact hr0.2.1) (bo_fr hb0 rfl rfl (fun q q1 q2 => w1 q (by omega) (by omega))).2.2.2 w2) ml_12_422 im_yX12_follow se_yX12_follow (by decide) (by decide) rfl (by decide) rfl rfl dX12_race_86 (by decide) (Nat.le_refl 0) (Nat.le_refl 0) (hl_r (by decide) (hl_i (hl_i hl_nil))) hs_nil ?_
  rintro _ _ _ ⟨A2, J2, rfl, rfl, rfl, v1, v2, v3, v4⟩ _
  show WA X (mS I0 A2 J2) plM 0 0 89 [(0, .ref 0), (1, .int (nI s)), (2, .int (nI t))] []
  have js : ∀ j, j ≤ 12 → J2 67 j = lN (wN j s) := fun j hj => by rw [v3 67 (by decide) (by decide) (by decide)]; exact w4 j hj
  have fA : ∀ q, q ≠ 51 → q ≠ 52 → q ≠ 53 → q ≠ 69 → q ≠ 70 → A2 q = A q := fun q q1 q2 q3 q4 q5 => by rw [v1 q q4 q5, w1 q q4 q5]; exact k2 q q1 q2 q3
  have hb2 : boS I0 A2 L := bo_fr hb0 rfl rfl (fun q q1 q2 => by rw [v1 q (by omega) (by omega), w1 q (by omega) (by omega)])
  have e12 : (36 : Nat) ^ (12 : Int32).toNatClampNeg = 36 ^ 12 := rfl
  have ws := wN_le 12 hs
  have wt := wN_le 12 ht
  have p12 := p36 (n := 12) (by omega)
  have cs : lg_cmp (J2 67 12) (lN (36 ^ (12 : Int32).toNatClampNeg)) = 0 ↔ wN 12 s = 36 ^ 12 := by rw [lg_cmp_eq, js 12 (by omega), e12]; exact pk_lEQ (by omega) (by omega)
  have ct : lg_cmp (J2 68 12) (lN (36 ^ (12 : Int32).toNatClampNeg)) = 0 ↔ wN 12 t = 36 ^ 12 := by rw [lg_cmp_eq, v4 12 (by omega), e12]; exact pk_lEQ (by omega) (by omega)
  have refuse : ∀ c : Int32, rfQ I A c L (some (.int 0)) (mS (up2 I0 0 0 c) A2 J2) plM := fun c => ⟨_, A2, J2, rfl, rfl, rfl, u2s, bo_fr hb2 (u2n (by decide)) (u2n (by decide)) (fun _ _ _ => rfl), v2, fun k q1 q2 => by rw [u2n q1]; exact fI k q1 (by omega), by rw [u2n (by decide)]; exact fI 61 (by decide) (by decide), fun q q1 => fA q (by omega) (by omega) (by omega) (by omega) (by omega), fA 59 (by decide) (by decide) (by decide) (by decide) (by decide)⟩
  have zs : nI s = 0 ↔ s = 0 := nI_z (by omega)
  have zt : nI t = 0 ↔ t = 0 := nI_z (by omega)
  have v12 : vp_in 12 13 := vp_in_nI (n := 12) (by omega) (by omega)
  have main : wN 12 s = 36 ^ 12 ∧ wN 12 t = 36 ^ 12 → ¬ (s = 0 ∧ t = 0) → WA X (mS I0 A2 J2) plM 0 0 159 [(0, .ref 0), (1, .int (nI s)), (2, .int (nI t)), (3, .int 0)] [] := by
    intro hsure hnz
    clear cs ct refuse
    have fin : ∀ (A4 : Nat → Nat → Int32) (pc : Nat) (u p : Nat) (hdp : decode cX12_race pc = .ok (.invokevirtual 412, 3)) (hdr : decode cX12_race (pc + 3) = .ok (.ireturn, 1)) (x3 : Int32), p ≤ 36 → u = (if s = 0 then 1 else raS s t) → p = (if s = 0 then 0 else 23) → (∀ q, q < 59 → A4 q = A2 q) → digV (A4 62) 12 → valR (A4 62) 12 = u → WA X (mS I0 A4 J2) plM 0 0 pc [(0, .ref 0), (1, .int (nI s)), (2, .int (nI t)), (3, .int x3)] [.int (nI p), .ref 0] := by
      intro A4 pc u p hdp hdr x3 hp36 hu hp hA hd hv
      refine a_callV (b := 0) (As := [.int (nI p)]) (st := []) (ci := 12) F (c_printOver (xl X) I0 A4 J2 p u hp36 hd hv) ml_12_412 im_yX12_printOver se_yX12_printOver (by decide) (by decide) rfl (by decide) rfl rfl hdp (by decide) (Nat.le_refl 0) (Nat.le_refl 0) (hl_r (by decide) (hl_i (hl_i (hl_i hl_nil)))) hs_nil ?_
      rintro _ _ _ ⟨I5, A5, len, txt, rfl, rfl, rfl, p1, p2, p3, p4, p5, p6⟩ _
      refine a_iret F E hdr (Nat.le_refl _) (Nat.le_refl _) (good ⟨fun z => absurd hsure z, fun _ z => absurd z hnz, fun _ _ => ?_⟩)
      rw [← hu, ← hp]
      have fA5 : ∀ q, q < 59 → A5 q = A2 q := fun q hq => by rw [p6 q (by omega) (by omega) (by omega) (by omega) (by omega), hA q hq]
      exact ⟨I5, A5, J2, len, txt, rfl, rfl, rfl, by rw [p1 0 (by decide)]; exact z0, bo_fr hb2 (p1 55 (by decide)) (p1 56 (by decide)) (fun q q1 q2 => fA5 q (by omega)), v2, p2, p3, p4, p5, fun k q1 q2 => by rw [p1 k (by omega)]; exact fI k q1 (by omega), fun q q1 => by rw [fA5 q (by omega)]; exact fA q (by omega) (by omega) (by omega) (by omega) (by omega)⟩
    have l281 : ∀ e k (A3 : Nat → Nat → Int32), k + e = 12 → (∀ q, q < 59 → A3 q = A2 q) → digV (A3 73) 12 → valR (A3 73) 12 = raS s t → (∀ j, j < k → A3 62 j = A3 73 j) → WA X (mS I0 A3 J2) plM 0 0 281 [(0, .ref 0), (1, .int (nI s)), (2, .int (nI t)), (3, .int (nI k))] [] := by
      intro e
      induction e with
      | zero =>
        intro k A3 hk hA hd hv hc
        obtain rfl : k = 12 := by omega
        have h : (12 : Int32) ≤ nI 12 := by decide
        refine r_12_race_281 F (fun _ z => ?_) (fun _ _ => by decide) (fun _ z => ?_) (fun z => absurd h z) (fun z => absurd h z) (fun z => absurd h z)
        · have c : ¬ s = 0 := fun w => z (zs.mpr w)
          exact fin A3 326 (raS s t) 23 dX12_race_326 dX12_race_329 _ (by omega) (by rw [if_neg c]) (by rw [if_neg c]) hA (fun j hj => by rw [hc j hj]; exact hd j hj) (by rw [← hv]; exact val_cg 12 (fun j hj => hc j hj))
        · have c := zs.mp z
          obtain ⟨b1, b2⟩ := val_put (r := A3 62) (v := 1) (by decide +kernel)
          exact fin _ 319 1 0 dX12_race_319 dX12_race_322 _ (by omega) (by rw [if_pos c]) (by rw [if_pos c]) (fun q hq => by rw [up1_p (by omega)]; exact hA q hq) (by rw [up1_s]; exact b1) (by rw [up1_s]; exact b2)
      | succ e ih =>
        intro k A3 hk hA hd hv hc
        have h : ¬ (12 : Int32) ≤ nI k := nI_ge (b := 12) (by omega) (by omega)
        refine r_12_race_281 F (fun z => absurd z h) (fun z => absurd z h) (fun z => absurd z h) (fun _ => vp_in_nI (by omega) (by omega)) (fun _ => vp_in_nI (by omega) (by omega)) (fun _ => ?_)
        rw [nI_1, nI_clamp (by omega)]
        refine ih (k + 1) _ (by omega) (fun q hq => by rw [up1_p (by omega)]; exact hA q hq) (by rw [up1_p (by decide)]; exact hd) (by rw [up1_p (by decide)]; exact hv) (fun j hj => ?_)
        rw [up1_s, up1_p (by decide)]
        by_cases w : j = k
        · rw [w, upd_in]
        · rw [upd_out w]; exact hc j (by omega)
    have l180 : ∀ e n (A3 : Nat → Nat → Int32), n + e = 13 → 1 ≤ n → (∀ q, q < 59 → A3 q = A2 q) → digV (A3 73) 12 → valR (A3 73) 12 = sumB (raT s t) 1 (n - 1) → WA X (mS I0 A3 J2) plM 0 0 180 [(0, .ref 0), (1, .int (nI s)), (2, .int (nI t)), (3, .int (nI n))] [] := by
      intro e
      induction e with
      | zero =>
        intro n A3 hn h1n hA hd hv
        obtain rfl : n = 13 := by omega
        have h : (12 : Int32) < nI 13 := by decide
        exact r_12_race_180 F (fun _ => l281 12 0 A3 rfl hA hd hv (fun j hj => absurd hj (by omega))) (fun z => absurd h z) (fun z => absurd h z) (fun z => absurd h z) (fun z => absurd h z)
      | succ e ih =>
        intro n A3 hn h1n hA hd hv
        have h : ¬ (12 : Int32) < nI n := fun z => by have := (nI_gtn 12 (by omega) (by omega)).mp z; omega
        have em : nI n - 1 = nI (n - 1) := pk_sub (b := 1) h1n
        have cn : (nI n).toNatClampNeg = n := nI_clamp (by omega)
        have cm : (nI (n - 1)).toNatClampNeg = n - 1 := nI_clamp (by omega)
        have up := wN_up (n - 1) hs
        rw [show n - 1 + 1 = n by omega] at up
        have wn := Nat.lt_of_le_of_lt (wN_le n hs) (p36 (show n ≤ 12 by omega))
        have eV : J2 67 (nI n).toNatClampNeg - 36 * J2 67 (nI n - 1).toNatClampNeg = lN (wN n s - 36 * wN (n - 1) s) := by
          rw [em, cn, cm, js n (by omega), js (n - 1) (by omega), show (36 : Int64) = lN 36 from rfl, lN_mul, lN_sub up]
        have nn0 : ∀ {v : Nat}, v < 2 ^ 63 → ¬ lN v < 0 := fun {v} hv z => by have := (pk_lLT (b := 0) hv (by decide)).mp z; omega
        refine r_12_race_180 F (fun z => absurd z h) (fun _ => vp_in_nI (by omega) (by omega)) (fun _ => by rw [em]; exact vp_in_nI (by omega) (by omega)) (fun _ => by rw [eV]; exact nn0 (by omega)) (fun _ => ?_)
        rw [eV, l_clamp (by omega)]
        generalize hA4 : up1 A3 71 (putR (A3 71) 12 (wN n s - 36 * wN (n - 1) s)) = A4
        obtain ⟨d71, x71⟩ := val_put (r := A3 71) (v := wN n s - 36 * wN (n - 1) s) (Nat.lt_of_le_of_lt (Nat.sub_le _ _) (Nat.lt_trans wn (by decide +kernel)))
        have a71 : A4 71 = putR (A3 71) 12 (wN n s - 36 * wN (n - 1) s) := by rw [← hA4, up1_s]
        have aq : ∀ q, q ≠ 71 → A4 q = A3 q := fun q hq => by rw [← hA4, up1_p hq]
        rw [← a71] at d71 x71
        clear hA4 a71
        have wm := wN_le (n - 1) ht
        have pm := p36 (show n - 1 ≤ 12 by omega)
        have eW : lN (36 ^ (nI n - 1).toNatClampNeg) - J2 68 (nI n - 1).toNatClampNeg = lN (36 ^ (n - 1) - wN (n - 1) t) := by
          rw [em, cm, v4 (n - 1) (by omega), lN_sub wm]
        refine r_12_race_212 F (by rw [em]; exact ⟨(nI_gen 0 (by omega) (by omega)).mpr (Nat.zero_le _), (nI_len 12 (by omega) (by omega)).mpr (by omega)⟩) (by rw [em]; exact vp_in_nI (by omega) (by omega)) (by rw [eW]; exact nn0 (by omega)) ?_
        rw [eW, l_clamp (by omega)]
        refine r_12_race_234 F ?_
        have l239 : ∀ e k (A5 : Nat → Nat → Int32), 2 * n + k + e = 24 → (∀ q, q ≠ 72 → A5 q = A4 q) → digV (A5 72) 12 → valR (A5 72) 12 = (36 ^ (n - 1) - wN (n - 1) t) * 36 ^ k → WA X (mS I0 A5 J2) plM 0 0 239 [(0, .ref 0), (1, .int (nI s)), (2, .int (nI t)), (3, .int (nI n)), (4, .int (nI (2 * n + k)))] [] := by
          intro e
          induction e with
          | zero =>
            intro k A5 hk hq hd5 hv5
            have h24 : (24 : Int32) ≤ nI (2 * n + k) := (nI_gen 24 (by omega) (by omega)).mpr (by omega)
            refine r_12_race_239 F (fun _ => ?_) (fun z => absurd h24 z) (fun z => absurd h24 z) (fun z => absurd h24 z)
            have b71 : A5 71 = A4 71 := hq 71 (by decide)
            have b73 : A5 73 = A3 73 := by rw [hq 73 (by decide), aq 73 (by decide)]
            refine r_12_race_261 F (by rw [b71]; exact d71) hd5 (by rw [b73]; exact hd) ?_
            refine r_12_race_273 F ?_
            rw [nI_1]
            have eT : valR (A5 73) 12 + valR (A5 71) 12 * valR (A5 72) 12 = sumB (raT s t) 1 n := by
              rw [b73, b71, hv, x71, hv5, su_p h1n]
              unfold raT
              rw [show 24 - 2 * n = k by omega]
            rw [eT]
            obtain ⟨d73, x73⟩ := val_put (r := A5 73) (v := sumB (raT s t) 1 n) (raS_lt hs (by omega))
            exact ih (n + 1) _ (by omega) (by omega) (fun q q1 => by rw [up1_p (by omega), hq q (by omega), aq q (by omega)]; exact hA q q1) (by rw [up1_s]; exact d73) (by rw [up1_s, Nat.add_sub_cancel]; exact x73)
          | succ e ihk =>
            intro k A5 hk hq hd5 hv5
            have h24 : ¬ (24 : Int32) ≤ nI (2 * n + k) := nI_ge (b := 24) (by omega) (by omega)
            refine r_12_race_239 F (fun z => absurd z h24) (fun _ => hd5) (fun _ => by decide) (fun _ => ?_)
            rw [nI_1, hv5, show (36 : Int32).toNatClampNeg = 36 from rfl, Nat.mul_assoc, ← Nat.pow_succ]
            have hlt : (36 ^ (n - 1) - wN (n - 1) t) * 36 ^ (k + 1) < 2 ^ 336 := by
              refine Nat.lt_of_le_of_lt (Nat.mul_le_mul (Nat.sub_le _ _) (Nat.le_refl _)) ?_
              rw [← Nat.pow_add]
              exact Nat.lt_of_le_of_lt (Nat.pow_le_pow_right (by decide) (show n - 1 + (k + 1) ≤ 24 by omega)) (by decide +kernel)
            obtain ⟨d72, x72⟩ := val_put (r := A5 72) hlt
            exact ihk (k + 1) _ (by omega) (fun q q1 => by rw [up1_p q1]; exact hq q q1) (by rw [up1_s]; exact d72) (by rw [up1_s]; exact x72)
        have e2n : (2 : Int32) * nI n = nI (2 * n + 0) := by rw [lit 2, pk_mul, Nat.add_zero]
        rw [e2n]
        obtain ⟨d72, x72⟩ := val_put (r := A4 72) (v := 36 ^ (n - 1) - wN (n - 1) t) (Nat.lt_of_le_of_lt (Nat.sub_le _ _) (Nat.lt_trans pm (by decide +kernel)))
        exact l239 (24 - 2 * n) 0 _ (by omega) (fun q q1 => by rw [up1_p q1]) (by rw [up1_s]; exact d72) (by rw [up1_s, Nat.pow_zero, Nat.mul_one]; exact x72)
    have zl : ∀ e k (A3 : Nat → Nat → Int32), k + e = 12 → (∀ q, q < 59 → A3 q = A2 q) → (∀ j, j < k → A3 73 j = 0) → WA X (mS I0 A3 J2) plM 0 0 159 [(0, .ref 0), (1, .int (nI s)), (2, .int (nI t)), (3, .int (nI k))] [] := by
      intro e
      induction e with
      | zero =>
        intro k A3 hk hA hz
        obtain rfl : k = 12 := by omega
        have h : (12 : Int32) ≤ nI 12 := by decide
        refine r_12_race_159 F (fun _ => ?_) (fun z => absurd h z) (fun z => absurd h z)
        have vz := val_z 12 hz
        exact l180 12 1 A3 rfl (Nat.le_refl _) hA vz.1 vz.2
      | succ e ih =>
        intro k A3 hk hA hz
        have h : ¬ (12 : Int32) ≤ nI k := nI_ge (b := 12) (by omega) (by omega)
        refine r_12_race_159 F (fun z => absurd z h) (fun _ => vp_in_nI (by omega) (by omega)) (fun _ => ?_)
        rw [nI_1, nI_clamp (by omega)]
        refine ih (k + 1) _ (by omega) (fun q q1 => by rw [up1_p (by omega)]; exact hA q q1) (fun j hj => ?_)
        rw [up1_s]
        by_cases w : j = k
        · rw [w, upd_in]
        · rw [upd_out w]; exact hz j (by omega)
    exact zl 12 0 A2 rfl (fun _ _ => rfl) (fun j hj => absurd hj (by omega))
  refine r_12_race_89 F E v12 (by decide) (fun _ => z0) (fun z => good ⟨fun _ => refuse 2, fun y => absurd (cs.mpr y.1) z, fun y => absurd (cs.mpr y.1) z⟩) (fun _ => v12) (fun _ => by decide) (fun _ _ => z0) (fun _ z => good ⟨fun _ => refuse 2, fun y => absurd (ct.mpr y.2) z, fun y => absurd (ct.mpr y.2) z⟩) (fun _ _ => z0) (fun _ _ _ => z0) (fun y1 y2 z => main ⟨cs.mp y1, ct.mp y2⟩ (fun w => z (zs.mpr w.1))) (fun _ _ _ _ => z0) (fun y1 y2 z1 z2 => good ⟨fun y => absurd ⟨cs.mp y1, ct.mp y2⟩ y, fun _ _ => refuse 3, fun _ y => absurd ⟨zs.mp z1, zt.mp z2⟩ y⟩) (fun _ _ _ _ => z0) (fun y1 y2 z1 z2 => main ⟨cs.mp y1, ct.mp y2⟩ (fun w => z2 (zt.mpr w.2)))
