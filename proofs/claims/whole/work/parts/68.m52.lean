theorem pf_shr3 {a d : Nat} {D : Int64} (hD : (D.toBitVec.smod 64).toNat = d) (h : a < 2 ^ 63) : lN a >>> D = lN (a / 2 ^ d) := by
  have hd : a / 2 ^ d ≤ a := Nat.div_le_self _ _
  apply Int64.toInt_inj.mp
  have e : (lN a >>> D).toInt = (lN a).toInt >>> d := by
    rw [← hD]
    exact BitVec.toInt_sshiftRight ..
  rw [e, Int.shiftRight_eq_div_pow, pf_lI (by omega), pf_lI (by omega)]
  rfl
theorem l_clamp {v : Nat} (h : v < 2 ^ 63) : (lN v).toNatClampNeg = v := by
  show (lN v).toInt.toNat = v
  rw [pf_lI h]; rfl
theorem c_putL (l : Launch) (I A : Nat → Nat → Int32) (J : Nat → Nat → Int64) (q : Nat) (y : Int64) (hq : q ∈ plM) (hk : kM q = 13) (hn : nM q ≤ 400) (hy : ¬ y < 0) : Con l 1 yX12_put cX12_put 4 none [.ref q, .long y] (mS I A J) plM 0 0 (PM none I (up1 A q (putR (A q) (nM q) y.toNatClampNeg)) J) := by
  obtain ⟨v, hv, rfl⟩ := pk_lOf hy
  rw [l_clamp hv]
  refine Con.of (by decide) (Nat.le_of_ble_eq_true rfl) (fun X hX9 hn9 F E => ?_)
  have loop : ∀ f k, k + f = nM q → WA X (mS I (up1 A q (putR (A q) k v)) J) plM 0 0 2 [(0, .ref q), (1, .long (lN v)), (3, .int (nI k))] [] := by
    intro f
    induction f with
    | zero =>
      intro k hk2
      obtain rfl : k = nM q := by omega
      have h : Int32.ofNat (nM q) ≤ nI (nM q) := (nI_leI (a := nM q) (b := nM q) (by omega) (by omega)).mpr (Nat.le_refl _)
      exact r_12_put_2 F E hq hk (fun _ => ⟨rfl, rfl, rfl⟩) (fun z => absurd h z) (fun z => absurd h z) (fun z => absurd h z) (fun z => absurd h z)
    | succ f ih =>
      intro k hk2
      have h : ¬ Int32.ofNat (nM q) ≤ nI k := fun z => by have := (nI_leI (a := nM q) (b := k) (by omega) (by omega)).mp z; omega
      refine r_12_put_2 F E hq hk (fun z => absurd z h) (fun _ _ => vp_in_nI (by omega) (by omega)) (fun _ c => ?_) (fun _ _ => vp_in_nI (by omega) (by omega)) (fun _ c => ?_)
      · have c := (nI_gen 3 (by omega) (by omega)).mp c
        have z : v / 2 ^ (28 * k) % 2 ^ 28 = 0 := by
          rw [Nat.div_eq_of_lt (Nat.lt_of_lt_of_le hv (Nat.pow_le_pow_right (by decide) (by omega)))]
        have e := putH_up (A q) k v
        rw [z] at e
        rw [nI_clamp (by omega), nI_1, up1_s, up1_up1, show (0 : Int32) = nI 0 from rfl, e]
        exact ih (k + 1) (by omega)
      · have c : k < 3 := Nat.lt_of_not_le (fun z => c ((nI_gen 3 (by omega) (by omega)).mpr z))
        rw [pf_shr3 (put_sh k c) hv, l_full (Nat.lt_of_le_of_lt (Nat.div_le_self _ _) (by omega)), lN_i, nI_clamp (by omega), nI_1, up1_s, up1_up1, putH_up]
        exact ih (k + 1) (by omega)
  refine r_12_put_0 F hq hk ?_
  have := loop (nM q) 0 (by omega)
  rw [show putR (A q) 0 v = A q from putH_e _ _ _, up1_id] at this
  exact this
theorem c_powI (l : Launch) (I A : Nat → Nat → Int32) (J : Nat → Nat → Int64) (x : Int32) (h : 0 ≤ x ∧ x ≤ 12) : Con l 1 yX12_power cX12_power 4 (some .long) [.int x] (mS I A J) plM 0 0 (PM (some (.long (lN (36 ^ x.toNatClampNeg)))) I A J) := by
  obtain ⟨n, hn, rfl⟩ := nI_of2 (x := x) (M := 12) (n := 12) rfl (Int32.not_lt.mpr h.1) h.2
  rw [nI_clamp (by omega)]
  exact c_power l I A J n hn
theorem su_leF {f g : Nat → Nat} {o : Nat} : ∀ n, (∀ k, k < n → f (o + k) ≤ g (o + k)) → sumB f o n ≤ sumB g o n
  | 0, _ => Nat.le_refl _
  | n + 1, h => by
    simp only [sumB]
    exact Nat.add_le_add (su_leF n (fun k hk => h k (by omega))) (h n (by omega))
theorem sumD_mono {f g : Nat → Nat → Nat} (h : ∀ a b, 1 ≤ a → a ≤ 6 → 1 ≤ b → b ≤ 6 → f a b ≤ g a b) : sumD f ≤ sumD g := by
  unfold sumD
  exact su_leF 6 (fun k hk => su_leF _ (fun j hj => Nat.mul_le_mul (Nat.le_refl _) (h _ _ (by omega) (by omega) (by omega) (by omega))))
theorem wN_s (n s : Nat) : wN (n + 1) s = if s = 0 then 36 ^ (n + 1) else sumD (fun a b => wN n (bst (eF 36) s a b)) := rfl
theorem bst_st {s a b : Nat} (hs : stnd s) (ha : 1 ≤ a) (hb : 1 ≤ b) : stnd (bst (eF 36) s a b) := (Res_st ha hb hs (bst_is (eF 36) ha hb hs).1).1
theorem wN_le : ∀ n {s : Nat}, stnd s → wN n s ≤ 36 ^ n
  | 0, s, _ => by show (if s = 0 then 1 else 0) ≤ 1; split <;> omega
  | n + 1, s, hs => by
    rw [wN_s]
    by_cases c : s = 0
    · rw [if_pos c]; exact Nat.le_refl _
    · rw [if_neg c, Nat.pow_succ, Nat.mul_comm]
      exact sumD_le (fun a b a1 _ b1 _ => wN_le n (bst_st hs a1 b1))
theorem wN_up : ∀ n {s : Nat}, stnd s → 36 * wN n s ≤ wN (n + 1) s
  | 0, s, _ => by
    rw [wN_s]
    show 36 * (if s = 0 then 1 else 0) ≤ _
    by_cases c : s = 0
    · rw [if_pos c, if_pos c]; decide
    · rw [if_neg c]; omega
  | n + 1, s, hs => by
    rw [wN_s (n + 1), wN_s n]
    by_cases c : s = 0
    · rw [if_pos c, if_pos c, Nat.pow_succ (n := 36) (m := n + 1), Nat.mul_comm]; exact Nat.le_refl _
    · rw [if_neg c, if_neg c, ← sumD_mul]
      exact sumD_mono (fun a b a1 _ b1 _ => wN_up n (bst_st hs a1 b1))
theorem p36 {n : Nat} (h : n ≤ 12) : 36 ^ n < 2 ^ 63 := Nat.lt_of_le_of_lt (Nat.pow_le_pow_right (by decide) h) (by decide +kernel)
theorem val_put {r : Nat → Int32} {v : Nat} (h : v < 2 ^ 336) : digV (putR r 12 v) 12 ∧ valR (putR r 12 v) 12 = v := ⟨put_dig, by rw [put_val 12 (Nat.le_refl _)]; exact Nat.mod_eq_of_lt h⟩
def witQ (I A : Nat → Nat → Int32) (J : Nat → Nat → Int64) (x n : Int32) (L : Nat) : Option Value → HS → List Nat → Prop := fun rv σ' pl' => (¬ (stdI x ∧ 0 ≤ n ∧ n ≤ 12) → rv = some (.int 0) ∧ σ' = mS (up2 I 0 0 1) A J ∧ pl' = plM) ∧ (stdI x ∧ 0 ≤ n ∧ n ≤ 12 → ¬ pipS x.toNatClampNeg ≤ L → rv = some (.int 0) ∧ σ' = mS (up2 I 0 0 2) A J ∧ pl' = plM) ∧ (0 ≤ n ∧ n ≤ 12 → okS x L → pgQ I A J (wN n.toNatClampNeg x.toNatClampNeg) n.toNatClampNeg L rv σ' pl')

theorem r_12_within_0 {X : Ctx} (F : Fx X cX12_within RX12 3 5 0 0) {Φ : Option Value → HS → List Nat → Prop} (E : Ex X (some .int) 0 0 Φ) {I A : Nat → Nat → Int32} {J : Nat → Nat → Int64} {x1 x2 : Int32}
    (e_1 : (stdI x1) → (x2 < 0) → Φ (some (.int 0)) (mS (up2 (up2 I 0 0 0) 0 0 (1 : Int32)) A J) plM)
    (e_2 : (stdI x1) → (¬ (x2 < 0)) → (12 < x2) → Φ (some (.int 0)) (mS (up2 (up2 I 0 0 0) 0 0 (1 : Int32)) A J) plM)
    (o_3 : (stdI x1) → (¬ (x2 < 0)) → (¬ (12 < x2)) → 0 ≤ x1)
    (e_4 : (stdI x1) → (¬ (x2 < 0)) → (¬ (12 < x2)) → (nI (pipS x1.toNatClampNeg) ≤ (I 0 55)) → WA X (mS (up2 I 0 0 0) A J) plM 0 0 51 [(0, .ref 0), (1, .int x1), (2, .int x2)] [.ref 0])
    (e_5 : (stdI x1) → (¬ (x2 < 0)) → (¬ (12 < x2)) → (¬ (nI (pipS x1.toNatClampNeg) ≤ (I 0 55))) → Φ (some (.int 0)) (mS (up2 (up2 I 0 0 0) 0 0 (2 : Int32)) A J) plM)
    (e_6 : (¬ (stdI x1)) → Φ (some (.int 0)) (mS (up2 (up2 I 0 0 0) 0 0 (1 : Int32)) A J) plM) :
    WA X (mS I A J) plM 0 0 0 [(0, .ref 0), (1, .int x1), (2, .int x2)] [] := by
  refine a_aload_n F 0 dX12_within_0 rfl rfl ?_
  refine a_iconst (v := 0) F dX12_within_1 (by decide) ?_
  refine a_puti F fl_12_1 rfl rfl rfl rfl (by decide) rfl dX12_within_2 ?_
  refine a_aload_n F 0 dX12_within_5 rfl rfl ?_
  refine a_iload_n F 1 dX12_within_6 rfl rfl ?_
  refine a_callS (As := [.int x1]) (st := [.ref 0]) F (c_isStand (xl X) (up2 I 0 0 0) A J x1) ml_12_395 sm_yX12_isStand (by decide) rfl dX12_within_7 (Nat.le_of_ble_eq_true rfl) (Nat.le_refl 0) (Nat.le_refl 0) (hl_r (by decide) (hl_i (hl_i hl_nil))) (hs_r (by decide) hs_nil) ?_
  rintro _ _ _ ⟨rfl, rfl, rfl⟩ _
  show WA X (mS (up2 I 0 0 0) A J) plM 0 0 10 [(0, .ref 0), (1, .int x1), (2, .int x2)] [.int (@ite Int32 (stdI x1) (Classical.propDecidable _) 1 0), .ref 0]
  refine a_ite (fun (c_1 : stdI x1) => ?_) (fun (c_1 : ¬ (stdI x1)) => ?_)
  · refine a_if_eq (tgt := 27) F dX12_within_10 (by decide) (fun (c_2 : (1 : Int32) = 0) => ?_) (fun (c_2 : ¬ ((1 : Int32) = 0)) => ?_)
    · exact absurd c_2 (by decide)
    · refine a_iload_n F 2 dX12_within_13 rfl rfl ?_
      refine a_if_lt (tgt := 27) F dX12_within_14 (by decide) (fun (c_3 : x2 < 0) => ?_) (fun (c_3 : ¬ (x2 < 0)) => ?_)
      · refine a_iconst (v := 0) F dX12_within_27 (by decide) ?_
        refine a_iconst (v := 1) F dX12_within_28 (by decide) ?_
        refine a_callV (b := 0) (As := [.int 0, .int 1]) (st := []) (ci := 12) F (c_may0 (xl X) (up2 I 0 0 0) A J (1 : Int32) (by decide) rfl) ml_12_155 im_yX12_may se_yX12_may (by decide) (by decide) rfl (by decide) rfl rfl dX12_within_29 (by decide) (Nat.le_refl 0) (Nat.le_refl 0) (hl_r (by decide) (hl_i (hl_i hl_nil))) hs_nil ?_
        rintro _ _ _ ⟨rfl, rfl, rfl⟩ _
        show WA X (mS (up2 (up2 I 0 0 0) 0 0 (1 : Int32)) A J) plM 0 0 32 [(0, .ref 0), (1, .int x1), (2, .int x2)] [.int 0]
        refine a_if_eq (tgt := 48) F dX12_within_32 (by decide) (fun (c_4 : (0 : Int32) = 0) => ?_) (fun (c_4 : ¬ ((0 : Int32) = 0)) => ?_)
        · refine a_iconst (v := 0) F dX12_within_48 (by decide) ?_
          exact a_iret F E dX12_within_49 (Nat.le_refl 0) (Nat.le_refl 0) (e_1 c_1 c_3)
        · exact absurd c_4 (by decide)
      · refine a_iload_n F 2 dX12_within_17 rfl rfl ?_
        refine a_bipush (v := 12) F dX12_within_18 (by decide) ?_
        refine a_icmp_gt (tgt := 27) F dX12_within_20 (by decide) (fun (c_5 : 12 < x2) => ?_) (fun (c_5 : ¬ (12 < x2)) => ?_)
        · refine a_iconst (v := 0) F dX12_within_27 (by decide) ?_
          refine a_iconst (v := 1) F dX12_within_28 (by decide) ?_
          refine a_callV (b := 0) (As := [.int 0, .int 1]) (st := []) (ci := 12) F (c_may0 (xl X) (up2 I 0 0 0) A J (1 : Int32) (by decide) rfl) ml_12_155 im_yX12_may se_yX12_may (by decide) (by decide) rfl (by decide) rfl rfl dX12_within_29 (by decide) (Nat.le_refl 0) (Nat.le_refl 0) (hl_r (by decide) (hl_i (hl_i hl_nil))) hs_nil ?_
          rintro _ _ _ ⟨rfl, rfl, rfl⟩ _
          show WA X (mS (up2 (up2 I 0 0 0) 0 0 (1 : Int32)) A J) plM 0 0 32 [(0, .ref 0), (1, .int x1), (2, .int x2)] [.int 0]
          refine a_if_eq (tgt := 48) F dX12_within_32 (by decide) (fun (c_6 : (0 : Int32) = 0) => ?_) (fun (c_6 : ¬ ((0 : Int32) = 0)) => ?_)
          · refine a_iconst (v := 0) F dX12_within_48 (by decide) ?_
            exact a_iret F E dX12_within_49 (Nat.le_refl 0) (Nat.le_refl 0) (e_2 c_1 c_3 c_5)
          · exact absurd c_6 (by decide)
        · refine a_iconst (v := 1) F dX12_within_23 (by decide) ?_
          refine a_goto (tgt := 28) F dX12_within_24 (by decide) ?_
          refine a_iconst (v := 1) F dX12_within_28 (by decide) ?_
          refine a_callV (b := 0) (As := [.int 1, .int 1]) (st := []) (ci := 12) F (c_may1 (xl X) (up2 I 0 0 0) A J (1 : Int32) (by decide) rfl) ml_12_155 im_yX12_may se_yX12_may (by decide) (by decide) rfl (by decide) rfl rfl dX12_within_29 (by decide) (Nat.le_refl 0) (Nat.le_refl 0) (hl_r (by decide) (hl_i (hl_i hl_nil))) hs_nil ?_
          rintro _ _ _ ⟨rfl, rfl, rfl⟩ _
          show WA X (mS (up2 I 0 0 0) A J) plM 0 0 32 [(0, .ref 0), (1, .int x1), (2, .int x2)] [.int 1]
          refine a_if_eq (tgt := 48) F dX12_within_32 (by decide) (fun (c_7 : (1 : Int32) = 0) => ?_) (fun (c_7 : ¬ ((1 : Int32) = 0)) => ?_)
          · exact absurd c_7 (by decide)
          · refine a_aload_n F 0 dX12_within_35 rfl rfl ?_
            refine a_aload_n F 0 dX12_within_36 rfl rfl ?_
            refine a_iload_n F 1 dX12_within_37 rfl rfl ?_
            refine a_callV (b := 0) (As := [.int x1]) (st := [.ref 0]) (ci := 12) F (c_isKnown (xl X) (up2 I 0 0 0) A J x1 (o_3 c_1 c_3 c_5)) ml_12_398 im_yX12_isKnown se_yX12_isKnown (by decide) (by decide) rfl (by decide) rfl rfl dX12_within_38 (Nat.le_of_ble_eq_true rfl) (Nat.le_refl 0) (Nat.le_refl 0) (hl_r (by decide) (hl_i (hl_i hl_nil))) (hs_r (by decide) hs_nil) ?_
            rintro _ _ _ ⟨rfl, rfl, rfl⟩ _
            show WA X (mS (up2 I 0 0 0) A J) plM 0 0 41 [(0, .ref 0), (1, .int x1), (2, .int x2)] [.int (if nI (pipS x1.toNatClampNeg) ≤ (I 0 55) then 1 else 0), .ref 0]
            refine a_ite (fun (c_8 : nI (pipS x1.toNatClampNeg) ≤ (I 0 55)) => ?_) (fun (c_8 : ¬ (nI (pipS x1.toNatClampNeg) ≤ (I 0 55))) => ?_)
            · refine a_iconst (v := 2) F dX12_within_41 (by decide) ?_
              refine a_callV (b := 0) (As := [.int 1, .int 2]) (st := []) (ci := 12) F (c_may1 (xl X) (up2 I 0 0 0) A J (2 : Int32) (by decide) rfl) ml_12_155 im_yX12_may se_yX12_may (by decide) (by decide) rfl (by decide) rfl rfl dX12_within_42 (by decide) (Nat.le_refl 0) (Nat.le_refl 0) (hl_r (by decide) (hl_i (hl_i hl_nil))) hs_nil ?_
              rintro _ _ _ ⟨rfl, rfl, rfl⟩ _
              show WA X (mS (up2 I 0 0 0) A J) plM 0 0 45 [(0, .ref 0), (1, .int x1), (2, .int x2)] [.int 1]
              refine a_if_ne (tgt := 50) F dX12_within_45 (by decide) (fun (c_9 : ¬ (1 : Int32) = 0) => ?_) (fun (c_9 : (1 : Int32) = 0) => ?_)
              · refine a_aload_n F 0 dX12_within_50 rfl rfl ?_
                exact e_4 c_1 c_3 c_5 c_8
              · exact absurd c_9 (by decide)
            · refine a_iconst (v := 2) F dX12_within_41 (by decide) ?_
              refine a_callV (b := 0) (As := [.int 0, .int 2]) (st := []) (ci := 12) F (c_may0 (xl X) (up2 I 0 0 0) A J (2 : Int32) (by decide) rfl) ml_12_155 im_yX12_may se_yX12_may (by decide) (by decide) rfl (by decide) rfl rfl dX12_within_42 (by decide) (Nat.le_refl 0) (Nat.le_refl 0) (hl_r (by decide) (hl_i (hl_i hl_nil))) hs_nil ?_
              rintro _ _ _ ⟨rfl, rfl, rfl⟩ _
              show WA X (mS (up2 (up2 I 0 0 0) 0 0 (2 : Int32)) A J) plM 0 0 45 [(0, .ref 0), (1, .int x1), (2, .int x2)] [.int 0]
              refine a_if_ne (tgt := 50) F dX12_within_45 (by decide) (fun (c_10 : ¬ (0 : Int32) = 0) => ?_) (fun (c_10 : (0 : Int32) = 0) => ?_)
              · exact absurd c_10 (by decide)
              · refine a_iconst (v := 0) F dX12_within_48 (by decide) ?_
                exact a_iret F E dX12_within_49 (Nat.le_refl 0) (Nat.le_refl 0) (e_5 c_1 c_3 c_5 c_8)
  · refine a_if_eq (tgt := 27) F dX12_within_10 (by decide) (fun (c_11 : (0 : Int32) = 0) => ?_) (fun (c_11 : ¬ ((0 : Int32) = 0)) => ?_)
    · refine a_iconst (v := 0) F dX12_within_27 (by decide) ?_
      refine a_iconst (v := 1) F dX12_within_28 (by decide) ?_
      refine a_callV (b := 0) (As := [.int 0, .int 1]) (st := []) (ci := 12) F (c_may0 (xl X) (up2 I 0 0 0) A J (1 : Int32) (by decide) rfl) ml_12_155 im_yX12_may se_yX12_may (by decide) (by decide) rfl (by decide) rfl rfl dX12_within_29 (by decide) (Nat.le_refl 0) (Nat.le_refl 0) (hl_r (by decide) (hl_i (hl_i hl_nil))) hs_nil ?_
      rintro _ _ _ ⟨rfl, rfl, rfl⟩ _
      show WA X (mS (up2 (up2 I 0 0 0) 0 0 (1 : Int32)) A J) plM 0 0 32 [(0, .ref 0), (1, .int x1), (2, .int x2)] [.int 0]
      refine a_if_eq (tgt := 48) F dX12_within_32 (by decide) (fun (c_12 : (0 : Int32) = 0) => ?_) (fun (c_12 : ¬ ((0 : Int32) = 0)) => ?_)
      · refine a_iconst (v := 0) F dX12_within_48 (by decide) ?_
        exact a_iret F E dX12_within_49 (Nat.le_refl 0) (Nat.le_refl 0) (e_6 c_1)
      · exact absurd c_12 (by decide)
    · exact absurd c_11 (by decide)

theorem r_12_within_54 {X : Ctx} (F : Fx X cX12_within RX12 3 5 0 0) {I A : Nat → Nat → Int32} {J : Nat → Nat → Int64} {x1 x2 : Int32}
    (e_1 : WA X (mS I A J) plM 0 0 61 [(0, .ref 0), (1, .int x1), (2, .int x2)] [.ref 67, .int x2, .int x1, .ref 0]) :
    WA X (mS I A J) plM 0 0 54 [(0, .ref 0), (1, .int x1), (2, .int x2)] [] := by
  refine a_aload_n F 0 dX12_within_54 rfl rfl ?_
  refine a_iload_n F 1 dX12_within_55 rfl rfl ?_
  refine a_iload_n F 2 dX12_within_56 rfl rfl ?_
  refine a_aload_n F 0 dX12_within_57 rfl rfl ?_
  refine a_getr (b := 67) F fl_12_125 rfl (by decide) rfl rfl dX12_within_58 ?_
  exact e_1

theorem r_12_within_64 {X : Ctx} (F : Fx X cX12_within RX12 3 5 0 0) {I A : Nat → Nat → Int32} {J : Nat → Nat → Int64} {x1 x2 : Int32}
    (o_1 : vp_in x2 13)
    (o_2 : ¬ ((J 67 x2.toNatClampNeg) : Int64) < 0)
    (e_3 : WA X (mS I (up1 A 62 (putR (A 62) 12 ((J 67 x2.toNatClampNeg) : Int64).toNatClampNeg)) J) plM 0 0 79 [(0, .ref 0), (1, .int x1), (2, .int x2)] [.int x2, .ref 0]) :
    WA X (mS I A J) plM 0 0 64 [(0, .ref 0), (1, .int x1), (2, .int x2)] [] := by
  refine a_aload_n F 0 dX12_within_64 rfl rfl ?_
  refine a_getr (b := 62) F fl_12_109 rfl (by decide) rfl rfl dX12_within_65 ?_
  refine a_aload_n F 0 dX12_within_68 rfl rfl ?_
  refine a_getr (b := 67) F fl_12_125 rfl (by decide) rfl rfl dX12_within_69 ?_
  refine a_iload_n F 2 dX12_within_72 rfl rfl ?_
  refine a_lald F (by decide) rfl (o_1) dX12_within_73 ?_
  refine a_callS (As := [.ref 62, .long (J 67 x2.toNatClampNeg)]) (st := []) F (c_putL (xl X) I A J 62 (J 67 x2.toNatClampNeg) (by decide) rfl (by decide) (o_2)) ml_12_426 sm_yX12_put (by decide) rfl dX12_within_74 (by decide) (Nat.le_refl 0) (Nat.le_refl 0) (hl_r (by decide) (hl_i (hl_i hl_nil))) hs_nil ?_
  rintro _ _ _ ⟨rfl, rfl, rfl⟩ _
  show WA X (mS I (up1 A 62 (putR (A 62) 12 ((J 67 x2.toNatClampNeg) : Int64).toNatClampNeg)) J) plM 0 0 77 [(0, .ref 0), (1, .int x1), (2, .int x2)] []
  refine a_aload_n F 0 dX12_within_77 rfl rfl ?_
  refine a_iload_n F 2 dX12_within_78 rfl rfl ?_
  exact e_3

set_option maxRecDepth 10000 in
theorem c_within (l : Launch) (I A : Nat → Nat → Int32) (J : Nat → Nat → Int64) (x y : Int32) (L : Nat) (hb : boS I A L) (hj : joS J) : Con l 5 yX12_within cX12_within 3 (some .int) [.ref 0, .int x, .int y] (mS I A J) plM 0 0 (witQ I A J x y L) := by
  refine Con.of (by decide) (Nat.le_of_ble_eq_true rfl) (fun X hX9 hn9 F E => ?_)
  have hL := hb.2.1
  have bad : ∀ {rv σ' pl'}, ¬ (stdI x ∧ 0 ≤ y ∧ y ≤ 12) → rv = some (.int 0) → σ' = mS (up2 (up2 I 0 0 0) 0 0 1) A J → pl' = plM → witQ I A J x y L rv σ' pl' := fun h h1 h2 h3 => ⟨fun _ => ⟨h1, by rw [h2, up2_up2], h3⟩, fun z => absurd z h, fun z1 z2 => absurd ⟨z2.1, z1⟩ h⟩
  refine r_12_within_0 F E (fun h1 h2 => bad (fun z => by have := z.2.1; grind) rfl rfl rfl) (fun h1 _ h2 => bad (fun z => by have := z.2.2; grind) rfl rfl rfl) (fun h _ _ => h.1) (fun h1 h2 h3 h4 => ?_) (fun h1 h2 h3 h4 => ⟨fun z => absurd ⟨h1, by grind, by grind⟩ z, fun _ _ => ⟨rfl, by rw [up2_up2], rfl⟩, fun _ z => ?_⟩) (fun h => bad (fun z => h z.1) rfl rfl rfl)
  · obtain ⟨s, hs, rfl⟩ := std_of h1
    obtain ⟨n, hn, rfl⟩ := nI_of2 (x := y) (M := 12) (n := 12) rfl h2 (Int32.not_lt.mp h3)
    clear bad
    have h6 : s < 16777216 := hs.1
    have hp90 := pip_90 hs
    rw [nI_clamp (by omega), hb.1] at h4
    have hpL : pipS s ≤ L := (nI_leI (by omega) (by omega)).mp h4
    refine a_callV (b := 0) (As := []) (st := []) (ci := 12) F (c_ready (xl X) (up2 I 0 0 0) A J (bo_56 hb)) ml_12_369 im_yX12_ready se_yX12_ready (by decide) (by decide) rfl (by decide) rfl rfl dX12_within_51 (by decide) (Nat.le_refl 0) (Nat.le_refl 0) (hl_r (by decide) (hl_i (hl_i hl_nil))) hs_nil ?_
    rintro _ _ _ ⟨I0, A0, rfl, rfl, rfl, hr0, k1, k2, k3⟩ _
    have hb0 := bo_rdy hb hr0 k1 k2 k3
    have fI : ∀ k, k ≠ 0 → k < 55 → I0 0 k = I 0 k := fun k q1 q2 => by rw [k1 k (by omega), u2n q1]
    have z0 : I0 0 0 = 0 := by rw [k1 0 (by decide)]; exact u2s
    have fA : ∀ q, q < 49 → A0 q = A q := fun q hq => k2 q (by omega) (by omega) (by omega)
    show WA X (mS I0 A0 J) plM 0 0 54 [(0, .ref 0), (1, .int (nI s)), (2, .int (nI n))] []
    refine r_12_within_54 F ?_
    refine a_callV (b := 0) (As := [.int (nI s), .int (nI n), .ref 67]) (st := []) (ci := 12) F (c_follow (xl X) I0 A0 J s n L 67 hs hpL hn (Or.inl rfl) hr0.2.1 hb0.2.2.2 hj) ml_12_422 im_yX12_follow se_yX12_follow (by decide) (by decide) rfl (by decide) rfl rfl dX12_within_61 (by decide) (Nat.le_refl 0) (Nat.le_refl 0) (hl_r (by decide) (hl_i (hl_i hl_nil))) hs_nil ?_
    rintro _ _ _ ⟨A1, J1, rfl, rfl, rfl, w1, w2, w3, w4⟩ _
    show WA X (mS I0 A1 J1) plM 0 0 64 [(0, .ref 0), (1, .int (nI s)), (2, .int (nI n))] []
    have hw := Nat.lt_of_le_of_lt (wN_le n hs) (p36 hn)
    have en : J1 67 (nI n).toNatClampNeg = lN (wN n s) := by rw [nI_clamp (by omega)]; exact w4 n (Nat.le_refl _)
    refine r_12_within_64 F (vp_in_nI (by omega) (by omega)) (by rw [en]; exact fun z => by have := (pk_lLT (b := 0) hw (by decide)).mp z; omega) ?_
    rw [en, l_clamp hw]
    obtain ⟨v1, v2⟩ := val_put (r := A1 62) (v := wN n s) (Nat.lt_trans hw (by decide +kernel))
    refine a_callV (b := 0) (As := [.int (nI n)]) (st := []) (ci := 12) F (c_printOver (xl X) I0 _ J1 n (wN n s) (by omega) (by rw [up1_s]; exact v1) (by rw [up1_s]; exact v2)) ml_12_412 im_yX12_printOver se_yX12_printOver (by decide) (by decide) rfl (by decide) rfl rfl dX12_within_79 (by decide) (Nat.le_refl 0) (Nat.le_refl 0) (hl_r (by decide) (hl_i (hl_i hl_nil))) hs_nil ?_
    rintro _ _ _ ⟨I2, A2, len, txt, rfl, rfl, rfl, p1, p2, p3, p4, p5, p6⟩ _
    refine a_iret F E dX12_within_82 (Nat.le_refl _) (Nat.le_refl _) ⟨fun z => absurd ⟨h1, Int32.not_lt.mp h2, Int32.not_lt.mp h3⟩ z, fun _ z => absurd (by rw [nI_clamp (by omega)]; exact hpL) z, fun _ _ => ?_⟩
    rw [nI_clamp (by omega), nI_clamp (by omega)]
    have fA2 : ∀ q, q < 59 → A2 q = A0 q := fun q hq => by rw [p6 q (by omega) (by omega) (by omega) (by omega) (by omega), up1_p (by omega), w1 q (by omega) (by omega)]
    exact ⟨I2, A2, J1, len, txt, rfl, rfl, rfl, by rw [p1 0 (by decide)]; exact z0, bo_fr hb0 (p1 55 (by decide)) (p1 56 (by decide)) (fun q q1 q2 => fA2 q (by omega)), w2, p2, p3, p4, p5, fun k q1 q2 => by rw [p1 k (by omega)]; exact fI k q1 q2, fun q q1 => by rw [fA2 q (by omega)]; exact fA q q1⟩
  · obtain ⟨s, hs, rfl⟩ := std_of h1
    have h6 : s < 16777216 := hs.1
    have hp90 := pip_90 hs
    have hz := z.2
    rw [nI_clamp (by omega)] at hz h4
    rw [hb.1] at h4
    exact absurd ((nI_leI (by omega) (by omega)).mpr hz) h4
