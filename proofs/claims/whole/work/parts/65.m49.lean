def joS (J : Nat → Nat → Int64) : Prop := ∀ k, k < 54264 → J 66 k = 0
def pgQ (I A : Nat → Nat → Int32) (J : Nat → Nat → Int64) (u p L : Nat) : Option Value → HS → List Nat → Prop := fun rv σ' pl' => ∃ I' A' J' len txt, rv = some (.int (nI len)) ∧ σ' = mS I' A' J' ∧ pl' = plM ∧ I' 0 0 = 0 ∧ boS I' A' L ∧ joS J' ∧ I' 0 61 = nI len ∧ len ≤ 400 ∧ prT u p len txt ∧ (∀ i, i < len → A' 59 i = nI (txt i)) ∧ (∀ k, k ≠ 0 → k < 55 → I' 0 k = I 0 k) ∧ ∀ q, q < 49 → A' q = A q
theorem bo_fr {I A I' A' : Nat → Nat → Int32} {L : Nat} (h : boS I A L) (h1 : I' 0 55 = I 0 55) (h2 : I' 0 56 = I 0 56) (h3 : ∀ q, 49 ≤ q → q < 54 → A' q = A q) : boS I' A' L := by
  have e49 := h3 49 (by omega) (by omega); have e50 := h3 50 (by omega) (by omega); have e51 := h3 51 (by omega) (by omega); have e52 := h3 52 (by omega) (by omega); have e53 := h3 53 (by omega) (by omega)
  refine ⟨h1.trans h.1, h.2.1, ?_, fun t ht hp => ?_⟩
  · rcases h.2.2.1 with z | z
    · exact Or.inl (h2.trans z)
    · exact Or.inr ⟨h2.trans z.1, by rw [e52]; exact z.2.1, by rw [e53]; exact z.2.2.1, by rw [e53]; exact z.2.2.2.1, by rw [e51]; exact z.2.2.2.2⟩
  · exact dnS_cg (fun _ _ => by rw [e49]) (by rw [e51]) (fun _ _ => by rw [e50]) (h.2.2.2 t ht hp)
theorem val_pad {r : Nat → Int32} {m : Nat} : ∀ n, (∀ k, m ≤ k → k < m + n → r k = 0) → digV r m → digV r (m + n) ∧ valR r (m + n) = valR r m
  | 0, _, h => ⟨h, rfl⟩
  | n + 1, hz, h => by
    have ih := val_pad n (fun k h1 h2 => hz k h1 (by omega)) h
    have z := hz (m + n) (by omega) (by omega)
    refine ⟨fun k hk => ?_, ?_⟩
    · rcases Nat.lt_or_ge k (m + n) with c | c
      · exact ih.1 k c
      · have e : k = m + n := by omega
        rw [e]; exact ⟨0, by decide, z⟩
    · rw [show m + (n + 1) = (m + n) + 1 by omega, val_s (d := 0) z (by decide), ih.2, Nat.zero_mul, Nat.add_zero]
def rolQ (I A : Nat → Nat → Int32) (J : Nat → Nat → Int64) (x : Int32) (L : Nat) : Option Value → HS → List Nat → Prop := fun rv σ' pl' => (¬ stdI x → rv = some (.int 0) ∧ σ' = mS (up2 I 0 0 1) A J ∧ pl' = plM) ∧ (stdI x → ¬ pipS x.toNatClampNeg ≤ L → rv = some (.int 0) ∧ σ' = mS (up2 I 0 0 2) A J ∧ pl' = plM) ∧ (okS x L → pgQ I A J (eF 36 x.toNatClampNeg) 36 L rv σ' pl')

theorem r_12_rolls_0 {X : Ctx} (F : Fx X cX12_rolls RX12 4 5 0 0) {Φ : Option Value → HS → List Nat → Prop} (E : Ex X (some .int) 0 0 Φ) {I A : Nat → Nat → Int32} {J : Nat → Nat → Int64} {x1 : Int32}
    (o_1 : (stdI x1) → 0 ≤ x1)
    (e_2 : (stdI x1) → (nI (pipS x1.toNatClampNeg) ≤ (I 0 55)) → WA X (mS (up2 I 0 0 0) A J) plM 0 0 33 [(0, .ref 0), (1, .int x1)] [.ref 0])
    (e_3 : (stdI x1) → (¬ (nI (pipS x1.toNatClampNeg) ≤ (I 0 55))) → Φ (some (.int 0)) (mS (up2 (up2 I 0 0 0) 0 0 (2 : Int32)) A J) plM)
    (e_4 : (¬ (stdI x1)) → Φ (some (.int 0)) (mS (up2 (up2 I 0 0 0) 0 0 (1 : Int32)) A J) plM) :
    WA X (mS I A J) plM 0 0 0 [(0, .ref 0), (1, .int x1)] [] := by
  refine a_aload_n F 0 dX12_rolls_0 rfl rfl ?_
  refine a_iconst (v := 0) F dX12_rolls_1 (by decide) ?_
  refine a_puti F fl_12_1 rfl rfl rfl rfl (by decide) rfl dX12_rolls_2 ?_
  refine a_aload_n F 0 dX12_rolls_5 rfl rfl ?_
  refine a_iload_n F 1 dX12_rolls_6 rfl rfl ?_
  refine a_callS (As := [.int x1]) (st := [.ref 0]) F (c_isStand (xl X) (up2 I 0 0 0) A J x1) ml_12_395 sm_yX12_isStand (by decide) rfl dX12_rolls_7 (Nat.le_of_ble_eq_true rfl) (Nat.le_refl 0) (Nat.le_refl 0) (hl_r (by decide) (hl_i hl_nil)) (hs_r (by decide) hs_nil) ?_
  rintro _ _ _ ⟨rfl, rfl, rfl⟩ _
  show WA X (mS (up2 I 0 0 0) A J) plM 0 0 10 [(0, .ref 0), (1, .int x1)] [.int (@ite Int32 (stdI x1) (Classical.propDecidable _) 1 0), .ref 0]
  refine a_ite (fun (c_1 : stdI x1) => ?_) (fun (c_1 : ¬ (stdI x1)) => ?_)
  · refine a_iconst (v := 1) F dX12_rolls_10 (by decide) ?_
    refine a_callV (b := 0) (As := [.int 1, .int 1]) (st := []) (ci := 12) F (c_may1 (xl X) (up2 I 0 0 0) A J (1 : Int32) (by decide) rfl) ml_12_155 im_yX12_may se_yX12_may (by decide) (by decide) rfl (by decide) rfl rfl dX12_rolls_11 (by decide) (Nat.le_refl 0) (Nat.le_refl 0) (hl_r (by decide) (hl_i hl_nil)) hs_nil ?_
    rintro _ _ _ ⟨rfl, rfl, rfl⟩ _
    show WA X (mS (up2 I 0 0 0) A J) plM 0 0 14 [(0, .ref 0), (1, .int x1)] [.int 1]
    refine a_if_eq (tgt := 30) F dX12_rolls_14 (by decide) (fun (c_2 : (1 : Int32) = 0) => ?_) (fun (c_2 : ¬ ((1 : Int32) = 0)) => ?_)
    · exact absurd c_2 (by decide)
    · refine a_aload_n F 0 dX12_rolls_17 rfl rfl ?_
      refine a_aload_n F 0 dX12_rolls_18 rfl rfl ?_
      refine a_iload_n F 1 dX12_rolls_19 rfl rfl ?_
      refine a_callV (b := 0) (As := [.int x1]) (st := [.ref 0]) (ci := 12) F (c_isKnown (xl X) (up2 I 0 0 0) A J x1 (o_1 c_1)) ml_12_398 im_yX12_isKnown se_yX12_isKnown (by decide) (by decide) rfl (by decide) rfl rfl dX12_rolls_20 (Nat.le_of_ble_eq_true rfl) (Nat.le_refl 0) (Nat.le_refl 0) (hl_r (by decide) (hl_i hl_nil)) (hs_r (by decide) hs_nil) ?_
      rintro _ _ _ ⟨rfl, rfl, rfl⟩ _
      show WA X (mS (up2 I 0 0 0) A J) plM 0 0 23 [(0, .ref 0), (1, .int x1)] [.int (if nI (pipS x1.toNatClampNeg) ≤ (I 0 55) then 1 else 0), .ref 0]
      refine a_ite (fun (c_3 : nI (pipS x1.toNatClampNeg) ≤ (I 0 55)) => ?_) (fun (c_3 : ¬ (nI (pipS x1.toNatClampNeg) ≤ (I 0 55))) => ?_)
      · refine a_iconst (v := 2) F dX12_rolls_23 (by decide) ?_
        refine a_callV (b := 0) (As := [.int 1, .int 2]) (st := []) (ci := 12) F (c_may1 (xl X) (up2 I 0 0 0) A J (2 : Int32) (by decide) rfl) ml_12_155 im_yX12_may se_yX12_may (by decide) (by decide) rfl (by decide) rfl rfl dX12_rolls_24 (by decide) (Nat.le_refl 0) (Nat.le_refl 0) (hl_r (by decide) (hl_i hl_nil)) hs_nil ?_
        rintro _ _ _ ⟨rfl, rfl, rfl⟩ _
        show WA X (mS (up2 I 0 0 0) A J) plM 0 0 27 [(0, .ref 0), (1, .int x1)] [.int 1]
        refine a_if_ne (tgt := 32) F dX12_rolls_27 (by decide) (fun (c_4 : ¬ (1 : Int32) = 0) => ?_) (fun (c_4 : (1 : Int32) = 0) => ?_)
        · refine a_aload_n F 0 dX12_rolls_32 rfl rfl ?_
          exact e_2 c_1 c_3
        · exact absurd c_4 (by decide)
      · refine a_iconst (v := 2) F dX12_rolls_23 (by decide) ?_
        refine a_callV (b := 0) (As := [.int 0, .int 2]) (st := []) (ci := 12) F (c_may0 (xl X) (up2 I 0 0 0) A J (2 : Int32) (by decide) rfl) ml_12_155 im_yX12_may se_yX12_may (by decide) (by decide) rfl (by decide) rfl rfl dX12_rolls_24 (by decide) (Nat.le_refl 0) (Nat.le_refl 0) (hl_r (by decide) (hl_i hl_nil)) hs_nil ?_
        rintro _ _ _ ⟨rfl, rfl, rfl⟩ _
        show WA X (mS (up2 (up2 I 0 0 0) 0 0 (2 : Int32)) A J) plM 0 0 27 [(0, .ref 0), (1, .int x1)] [.int 0]
        refine a_if_ne (tgt := 32) F dX12_rolls_27 (by decide) (fun (c_5 : ¬ (0 : Int32) = 0) => ?_) (fun (c_5 : (0 : Int32) = 0) => ?_)
        · exact absurd c_5 (by decide)
        · refine a_iconst (v := 0) F dX12_rolls_30 (by decide) ?_
          exact a_iret F E dX12_rolls_31 (Nat.le_refl 0) (Nat.le_refl 0) (e_3 c_1 c_3)
  · refine a_iconst (v := 1) F dX12_rolls_10 (by decide) ?_
    refine a_callV (b := 0) (As := [.int 0, .int 1]) (st := []) (ci := 12) F (c_may0 (xl X) (up2 I 0 0 0) A J (1 : Int32) (by decide) rfl) ml_12_155 im_yX12_may se_yX12_may (by decide) (by decide) rfl (by decide) rfl rfl dX12_rolls_11 (by decide) (Nat.le_refl 0) (Nat.le_refl 0) (hl_r (by decide) (hl_i hl_nil)) hs_nil ?_
    rintro _ _ _ ⟨rfl, rfl, rfl⟩ _
    show WA X (mS (up2 (up2 I 0 0 0) 0 0 (1 : Int32)) A J) plM 0 0 14 [(0, .ref 0), (1, .int x1)] [.int 0]
    refine a_if_eq (tgt := 30) F dX12_rolls_14 (by decide) (fun (c_6 : (0 : Int32) = 0) => ?_) (fun (c_6 : ¬ ((0 : Int32) = 0)) => ?_)
    · refine a_iconst (v := 0) F dX12_rolls_30 (by decide) ?_
      exact a_iret F E dX12_rolls_31 (Nat.le_refl 0) (Nat.le_refl 0) (e_4 c_1)
    · exact absurd c_6 (by decide)

theorem r_12_rolls_36 {X : Ctx} (F : Fx X cX12_rolls RX12 4 5 0 0) {I A : Nat → Nat → Int32} {J : Nat → Nat → Int64} {x1 : Int32}
    (o_1 : stdI x1)
    (o_2 : chT (A 52))
    (e_3 : WA X (mS I A J) plM 0 0 44 [(0, .ref 0), (1, .int x1), (2, .int (nmI x1)), (3, .int 0)] []) :
    WA X (mS I A J) plM 0 0 36 [(0, .ref 0), (1, .int x1)] [] := by
  refine a_aload_n F 0 dX12_rolls_36 rfl rfl ?_
  refine a_iload_n F 1 dX12_rolls_37 rfl rfl ?_
  refine a_callV (b := 0) (As := [.int x1]) (st := []) (ci := 12) F (c_numberOfI (xl X) I A J x1 (o_1) (o_2)) ml_12_375 im_yX12_numberOf se_yX12_numberOf (by decide) (by decide) rfl (by decide) rfl rfl dX12_rolls_38 (by decide) (Nat.le_refl 0) (Nat.le_refl 0) (hl_r (by decide) (hl_i hl_nil)) hs_nil ?_
  rintro _ _ _ ⟨rfl, rfl, rfl⟩ _
  show WA X (mS I A J) plM 0 0 41 [(0, .ref 0), (1, .int x1)] [.int (nmI x1)]
  refine a_istore_n F dX12_rolls_41 rfl (by decide) rfl ?_
  refine a_iconst (v := 0) F dX12_rolls_42 (by decide) ?_
  refine a_istore_n F dX12_rolls_43 rfl (by decide) rfl ?_
  refine a_sub [2, 3, 1, 0] rfl ?_
  exact e_3

theorem r_12_rolls_44 {X : Ctx} (F : Fx X cX12_rolls RX12 4 5 0 0) {I A : Nat → Nat → Int32} {J : Nat → Nat → Int64} {x1 x2 x3 : Int32}
    (e_1 : (12 ≤ x3) → WA X (mS I A J) plM 0 0 86 [(0, .ref 0), (1, .int x1), (2, .int x2), (3, .int x3)] [.int 36, .ref 0])
    (o_2 : (¬ (12 ≤ x3)) → (8 ≤ x3) → vp_in x3 12)
    (e_3 : (¬ (12 ≤ x3)) → (8 ≤ x3) → WA X (mS I (up1 A 62 (upd (A 62) x3.toNatClampNeg 0)) J) plM 0 0 44 [(0, .ref 0), (1, .int x1), (2, .int x2), (3, .int (x3 + 1))] [])
    (o_4 : (¬ (12 ≤ x3)) → (¬ (8 ≤ x3)) → vp_in ((8 * x2) + x3) 434112)
    (o_5 : (¬ (12 ≤ x3)) → (¬ (8 ≤ x3)) → vp_in x3 12)
    (e_6 : (¬ (12 ≤ x3)) → (¬ (8 ≤ x3)) → WA X (mS I (up1 A 62 (upd (A 62) x3.toNatClampNeg (A 49 ((8 * x2) + x3).toNatClampNeg))) J) plM 0 0 44 [(0, .ref 0), (1, .int x1), (2, .int x2), (3, .int (x3 + 1))] []) :
    WA X (mS I A J) plM 0 0 44 [(0, .ref 0), (1, .int x1), (2, .int x2), (3, .int x3)] [] := by
  refine a_iload_n F 3 dX12_rolls_44 rfl rfl ?_
  refine a_bipush (v := 12) F dX12_rolls_45 (by decide) ?_
  refine a_icmp_ge (tgt := 83) F dX12_rolls_47 (by decide) (fun (c_7 : 12 ≤ x3) => ?_) (fun (c_7 : ¬ (12 ≤ x3)) => ?_)
  · refine a_aload_n F 0 dX12_rolls_83 rfl rfl ?_
    refine a_bipush (v := 36) F dX12_rolls_84 (by decide) ?_
    exact e_1 c_7
  · refine a_aload_n F 0 dX12_rolls_50 rfl rfl ?_
    refine a_getr (b := 62) F fl_12_109 rfl (by decide) rfl rfl dX12_rolls_51 ?_
    refine a_iload_n F 3 dX12_rolls_54 rfl rfl ?_
    refine a_iload_n F 3 dX12_rolls_55 rfl rfl ?_
    refine a_bipush (v := 8) F dX12_rolls_56 (by decide) ?_
    refine a_icmp_ge (tgt := 75) F dX12_rolls_58 (by decide) (fun (c_8 : 8 ≤ x3) => ?_) (fun (c_8 : ¬ (8 ≤ x3)) => ?_)
    · refine a_iconst (v := 0) F dX12_rolls_75 (by decide) ?_
      refine a_iast F (by decide) rfl (o_2 c_7 c_8) dX12_rolls_76 ?_
      refine a_iinc (v := x3 + 1) F 3 dX12_rolls_77 rfl rfl (by decide) rfl ?_
      refine a_goto (tgt := 44) F dX12_rolls_80 (by decide) ?_
      refine a_sub [1, 2, 3, 0] rfl ?_
      exact e_3 c_7 c_8
    · refine a_aload_n F 0 dX12_rolls_61 rfl rfl ?_
      refine a_getr (b := 49) F fl_12_80 rfl (by decide) rfl rfl dX12_rolls_62 ?_
      refine a_bipush (v := 8) F dX12_rolls_65 (by decide) ?_
      refine a_iload_n F 2 dX12_rolls_67 rfl rfl ?_
      refine a_imul F dX12_rolls_68 ?_
      refine a_iload_n F 3 dX12_rolls_69 rfl rfl ?_
      refine a_iadd F dX12_rolls_70 ?_
      refine a_iald F (by decide) rfl (o_4 c_7 c_8) dX12_rolls_71 ?_
      refine a_goto (tgt := 76) F dX12_rolls_72 (by decide) ?_
      refine a_iast F (by decide) rfl (o_5 c_7 c_8) dX12_rolls_76 ?_
      refine a_iinc (v := x3 + 1) F 3 dX12_rolls_77 rfl rfl (by decide) rfl ?_
      refine a_goto (tgt := 44) F dX12_rolls_80 (by decide) ?_
      refine a_sub [1, 2, 3, 0] rfl ?_
      exact e_6 c_7 c_8

set_option maxRecDepth 10000 in
theorem c_rolls (l : Launch) (I A : Nat → Nat → Int32) (J : Nat → Nat → Int64) (x : Int32) (L : Nat) (hb : boS I A L) (hj : joS J) : Con l 5 yX12_rolls cX12_rolls 4 (some .int) [.ref 0, .int x] (mS I A J) plM 0 0 (rolQ I A J x L) := by
  refine Con.of (by decide) (Nat.le_of_ble_eq_true rfl) (fun X hX9 hn9 F E => ?_)
  have hL := hb.2.1
  refine r_12_rolls_0 F E (fun h => h.1) (fun h1 h4 => ?_) (fun h1 h4 => ⟨fun z => absurd h1 z, fun _ _ => ⟨rfl, by rw [up2_up2], rfl⟩, fun z => ?_⟩) (fun h => ⟨fun _ => ⟨rfl, by rw [up2_up2], rfl⟩, fun z => absurd z h, fun z => absurd z.1 h⟩)
  · obtain ⟨s, hs, rfl⟩ := std_of h1
    have h6 : s < 16777216 := hs.1
    have hp90 := pip_90 hs
    have hsm : valR (A 62) 12 = valR (A 62) 12 := rfl
    rw [nI_clamp (by omega), hb.1] at h4
    have hpL : pipS s ≤ L := (nI_leI (by omega) (by omega)).mp h4
    refine a_callV (b := 0) (As := []) (st := []) (ci := 12) F (c_ready (xl X) (up2 I 0 0 0) A J (bo_56 hb)) ml_12_369 im_yX12_ready se_yX12_ready (by decide) (by decide) rfl (by decide) rfl rfl dX12_rolls_33 (by decide) (Nat.le_refl 0) (Nat.le_refl 0) (hl_r (by decide) (hl_i hl_nil)) hs_nil ?_
    rintro _ _ _ ⟨I0, A0, rfl, rfl, rfl, hr0, k1, k2, k3⟩ _
    have hb0 := bo_rdy hb hr0 k1 k2 k3
    have fI : ∀ k, k ≠ 0 → k < 55 → I0 0 k = I 0 k := fun k q1 q2 => by rw [k1 k (by omega), u2n q1]
    have z0 : I0 0 0 = 0 := by rw [k1 0 (by decide)]; exact u2s
    have fA : ∀ q, q < 49 → A0 q = A q := fun q hq => k2 q (by omega) (by omega) (by omega)
    have en : nmI (nI s) = nI (num s) := by unfold nmI; rw [nI_clamp (by omega)]
    have hn := num_lt hs
    have hd := hb0.2.2.2 s hs hpL
    show WA X (mS I0 A0 J) plM 0 0 36 [(0, .ref 0), (1, .int (nI s))] []
    refine r_12_rolls_36 F h1 hr0.2.1 ?_
    rw [en]
    have lp : ∀ f k (A1 : Nat → Nat → Int32), k + f = 12 → (∀ q, q ≠ 62 → A1 q = A0 q) → (∀ j, j < k → A1 62 j = if j < 8 then A0 49 (8 * num s + j) else 0) → WA X (mS I0 A1 J) plM 0 0 44 [(0, .ref 0), (1, .int (nI s)), (2, .int (nI (num s))), (3, .int (nI k))] [] := by
      intro f
      induction f with
      | zero =>
        intro k A1 hk hq hv
        obtain rfl : k = 12 := by omega
        have h : (12 : Int32) ≤ nI 12 := by decide
        refine r_12_rolls_44 F (fun _ => ?_) (fun z => absurd h z) (fun z => absurd h z) (fun z => absurd h z) (fun z => absurd h z) (fun z => absurd h z)
        have d8 : digV (A1 62) 8 := fun j hj => by rw [hv j (by omega), if_pos hj]; exact hd.1 j hj
        have v8 : valR (A1 62) 8 = eF 36 s := by rw [← hd.2.1]; exact val_cg 8 (fun j hj => by rw [hv j (by omega), if_pos hj]; rfl)
        obtain ⟨d12, v12⟩ := val_pad (r := A1 62) (m := 8) 4 (fun j j1 j2 => by rw [hv j j2, if_neg (by omega)]) d8
        refine a_callV (b := 0) (As := [.int 36]) (st := []) (ci := 12) F (c_printOver (xl X) I0 A1 J 36 (eF 36 s) (by omega) d12 (v12.trans v8)) ml_12_412 im_yX12_printOver se_yX12_printOver (by decide) (by decide) rfl (by decide) rfl rfl dX12_rolls_86 (by decide) (Nat.le_refl 0) (Nat.le_refl 0) (hl_r (by decide) (hl_i (hl_i (hl_i hl_nil)))) hs_nil ?_
        rintro _ _ _ ⟨I2, A2, len, txt, rfl, rfl, rfl, p1, p2, p3, p4, p5, p6⟩ _
        refine a_iret F E dX12_rolls_89 (Nat.le_refl _) (Nat.le_refl _) ⟨fun z => absurd h1 z, fun _ z => absurd (by rw [nI_clamp (by omega)]; exact hpL) z, fun _ => ?_⟩
        rw [nI_clamp (by omega)]
        refine ⟨I2, A2, J, len, txt, rfl, rfl, rfl, by rw [p1 0 (by decide)]; exact z0, bo_fr hb0 (p1 55 (by decide)) (p1 56 (by decide)) (fun q q1 q2 => by rw [p6 q (by omega) (by omega) (by omega) (by omega) (by omega), hq q (by omega)]), hj, p2, p3, p4, p5, fun k q1 q2 => by rw [p1 k (by omega)]; exact fI k q1 q2, fun q q1 => by rw [p6 q (by omega) (by omega) (by omega) (by omega) (by omega), hq q (by omega)]; exact fA q q1⟩
      | succ f ih =>
        intro k A1 hk hq hv
        have h : ¬ (12 : Int32) ≤ nI k := nI_ge (b := 12) (by omega) (by omega)
        have e1 : 8 * nI (num s) + nI k = nI (8 * num s + k) := by rw [lit 8, pk_mul, nI_add]
        have nx : ∀ v, v = (if k < 8 then A0 49 (8 * num s + k) else 0) → WA X (mS I0 (up1 A1 62 (upd (A1 62) k v)) J) plM 0 0 44 [(0, .ref 0), (1, .int (nI s)), (2, .int (nI (num s))), (3, .int (nI k + 1))] [] := fun v ev => by
          rw [nI_1]
          refine ih (k + 1) _ (by omega) (fun q hq' => by rw [up1_p hq']; exact hq q hq') (fun j hj => ?_)
          rw [up1_s]
          rcases Nat.lt_or_ge j k with c | c
          · rw [upd_out (by omega)]; exact hv j c
          · have e : j = k := by omega
            rw [e, upd_in, ev]
        have c8 : (8 : Int32) ≤ nI k ↔ 8 ≤ k := nI_gen 8 (by omega) (by omega)
        refine r_12_rolls_44 F (fun z => absurd z h) (fun _ _ => vp_in_nI (by omega) (by omega)) (fun _ z => ?_) (fun _ z => ?_) (fun _ _ => vp_in_nI (by omega) (by omega)) (fun _ z => ?_)
        · rw [nI_clamp (by omega)]; exact nx 0 (by rw [if_neg (by have := c8.mp z; omega)])
        · rw [e1]; exact vp_in_nI (by have := (not_congr c8).mp z; omega) (by omega)
        · rw [e1, nI_clamp (by omega), nI_clamp (by omega)]; exact nx _ (by rw [if_pos (by have := (not_congr c8).mp z; omega), hq 49 (by decide)])
    exact lp 12 0 A0 rfl (fun _ _ => rfl) (fun j hj => absurd hj (by omega))
  · obtain ⟨s, hs, rfl⟩ := std_of h1
    have h6 : s < 16777216 := hs.1
    have hp90 := pip_90 hs
    have hz := z.2
    rw [nI_clamp (by omega)] at hz h4
    rw [hb.1] at h4
    exact absurd ((nI_leI (by omega) (by omega)).mpr hz) h4
