theorem dn_sym : ∀ a, a < 7 → ∀ b, b < 7 → dnN a b = dnN b a ∨ a = 0 ∨ b = 0 := by decide +kernel
theorem bo_rdy {I A I' A' : Nat → Nat → Int32} {L : Nat} (h : boS I A L) (hr : rdyS I' A') (k1 : ∀ k, k ≠ 56 → I' 0 k = up2 I 0 0 0 0 k) (k2 : ∀ q, q ≠ 51 → q ≠ 52 → q ≠ 53 → A' q = A q) (k3 : ∀ k, k ≠ 0 → A' 51 k = A 51 k) : boS I' A' L :=
  ⟨by rw [k1 55 (by decide), u2n (by decide)]; exact h.1, h.2.1, Or.inr hr, fun t ht hp => rd_dn ht k2 k3 hr.2.2.2.2 (h.2.2.2 t ht hp)⟩
theorem bo_56 {I A : Nat → Nat → Int32} {L : Nat} (h : boS I A L) : (up2 I 0 0 0) 0 56 = 0 ∨ rdyS (up2 I 0 0 0) A := by
  have e56 : (up2 I 0 0 0) 0 56 = I 0 56 := u2n (by decide)
  rcases h.2.2.1 with h | h
  · exact Or.inl (e56.trans h)
  · exact Or.inr ⟨e56.trans h.1, h.2⟩
theorem bst_0 {e : Nat → Nat} {a b : Nat} (ha : 1 ≤ a) (hb : 1 ≤ b) : bst e 0 a b = 0 := Res_0 (bst_is e ha hb st_0).1
theorem dn_best {A : Nat → Nat → Int32} {s a b : Nat} (h : dnS A s) (hs : stnd s) (h0 : s ≠ 0) (ha : 1 ≤ a ∧ a ≤ 6) (hb : 1 ≤ b ∧ b ≤ 6) : A 50 (21 * num s + dnN a b) = nI (num (bst (eF 36) s a b)) := by
  rcases Nat.le_total b a with c | c
  · exact h.2.2.2 h0 a b hb.1 c ha.2
  · have e : dnN a b = dnN b a := by rcases dn_sym a (by omega) b (by omega) with z | z | z <;> first | exact z | omega
    rw [e, bst_sym (eF 36) ha.1 hb.1 hs]; exact h.2.2.2 h0 b a ha.1 c hb.2
theorem bst_k {s a b L : Nat} (hs : stnd s) (ha : 1 ≤ a) (hb : 1 ≤ b) (hp : pipS s ≤ L) : stnd (bst (eF 36) s a b) ∧ pipS (bst (eF 36) s a b) ≤ L := by
  have hr := (bst_is (eF 36) ha hb hs).1
  refine ⟨(Res_st ha hb hs hr).1, ?_⟩
  by_cases c : s = 0
  · subst c; rw [Res_0 hr, pip_z]; omega
  · have := Res_pip ha hb hs c hr; omega
def okS (x : Int32) (L : Nat) : Prop := stdI x ∧ pipS x.toNatClampNeg ≤ L
def besQ (I A : Nat → Nat → Int32) (J : Nat → Nat → Int64) (x a b : Int32) (L : Nat) : Option Value → HS → List Nat → Prop := fun rv σ' pl' => (¬ (stdI x ∧ diceP a b) → rv = some (.int 0) ∧ σ' = mS (up2 I 0 0 1) A J ∧ pl' = plM) ∧ (stdI x ∧ diceP a b → ¬ pipS x.toNatClampNeg ≤ L → rv = some (.int 0) ∧ σ' = mS (up2 I 0 0 2) A J ∧ pl' = plM) ∧ (diceP a b → okS x L → ∃ I' A', rv = some (.int (nI (bst (eF 36) x.toNatClampNeg a.toNatClampNeg b.toNatClampNeg))) ∧ σ' = mS I' A' J ∧ pl' = plM ∧ I' 0 0 = 0 ∧ boS I' A' L ∧ (∀ k, k ≠ 0 → k ≠ 56 → I' 0 k = I 0 k) ∧ ∀ q, q ≠ 51 → q ≠ 52 → q ≠ 53 → A' q = A q)

theorem r_12_best_0 {X : Ctx} (F : Fx X cX12_best RX12 4 5 0 0) {Φ : Option Value → HS → List Nat → Prop} (E : Ex X (some .int) 0 0 Φ) {I A : Nat → Nat → Int32} {J : Nat → Nat → Int64} {x1 x2 x3 : Int32}
    (o_1 : (stdI x1) → (1 ≤ x2 ∧ x2 ≤ 6) → (1 ≤ x3 ∧ x3 ≤ 6) → 0 ≤ x1)
    (e_2 : (stdI x1) → (1 ≤ x2 ∧ x2 ≤ 6) → (1 ≤ x3 ∧ x3 ≤ 6) → (nI (pipS x1.toNatClampNeg) ≤ (I 0 55)) → WA X (mS (up2 I 0 0 0) A J) plM 0 0 55 [(0, .ref 0), (1, .int x1), (2, .int x2), (3, .int x3)] [.ref 0])
    (e_3 : (stdI x1) → (1 ≤ x2 ∧ x2 ≤ 6) → (1 ≤ x3 ∧ x3 ≤ 6) → (¬ (nI (pipS x1.toNatClampNeg) ≤ (I 0 55))) → Φ (some (.int 0)) (mS (up2 (up2 I 0 0 0) 0 0 (2 : Int32)) A J) plM)
    (e_4 : (stdI x1) → (1 ≤ x2 ∧ x2 ≤ 6) → (¬ (1 ≤ x3 ∧ x3 ≤ 6)) → Φ (some (.int 0)) (mS (up2 (up2 I 0 0 0) 0 0 (1 : Int32)) A J) plM)
    (e_5 : (stdI x1) → (¬ (1 ≤ x2 ∧ x2 ≤ 6)) → Φ (some (.int 0)) (mS (up2 (up2 I 0 0 0) 0 0 (1 : Int32)) A J) plM)
    (e_6 : (¬ (stdI x1)) → Φ (some (.int 0)) (mS (up2 (up2 I 0 0 0) 0 0 (1 : Int32)) A J) plM) :
    WA X (mS I A J) plM 0 0 0 [(0, .ref 0), (1, .int x1), (2, .int x2), (3, .int x3)] [] := by
  refine a_aload_n F 0 dX12_best_0 rfl rfl ?_
  refine a_iconst (v := 0) F dX12_best_1 (by decide) ?_
  refine a_puti F fl_12_1 rfl rfl rfl rfl (by decide) rfl dX12_best_2 ?_
  refine a_aload_n F 0 dX12_best_5 rfl rfl ?_
  refine a_iload_n F 1 dX12_best_6 rfl rfl ?_
  refine a_callS (As := [.int x1]) (st := [.ref 0]) F (c_isStand (xl X) (up2 I 0 0 0) A J x1) ml_12_395 sm_yX12_isStand (by decide) rfl dX12_best_7 (Nat.le_of_ble_eq_true rfl) (Nat.le_refl 0) (Nat.le_refl 0) (hl_r (by decide) (hl_i (hl_i (hl_i hl_nil)))) (hs_r (by decide) hs_nil) ?_
  rintro _ _ _ ⟨rfl, rfl, rfl⟩ _
  show WA X (mS (up2 I 0 0 0) A J) plM 0 0 10 [(0, .ref 0), (1, .int x1), (2, .int x2), (3, .int x3)] [.int (@ite Int32 (stdI x1) (Classical.propDecidable _) 1 0), .ref 0]
  refine a_ite (fun (c_1 : stdI x1) => ?_) (fun (c_1 : ¬ (stdI x1)) => ?_)
  · refine a_if_eq (tgt := 31) F dX12_best_10 (by decide) (fun (c_2 : (1 : Int32) = 0) => ?_) (fun (c_2 : ¬ ((1 : Int32) = 0)) => ?_)
    · exact absurd c_2 (by decide)
    · refine a_iload_n F 2 dX12_best_13 rfl rfl ?_
      refine a_callS (As := [.int x2]) (st := [.ref 0]) F (c_isDie (xl X) (up2 I 0 0 0) A J x2) ml_12_236 sm_yX12_isDie (by decide) rfl dX12_best_14 (Nat.le_of_ble_eq_true rfl) (Nat.le_refl 0) (Nat.le_refl 0) (hl_r (by decide) (hl_i (hl_i (hl_i hl_nil)))) (hs_r (by decide) hs_nil) ?_
      rintro _ _ _ ⟨rfl, rfl, rfl⟩ _
      show WA X (mS (up2 I 0 0 0) A J) plM 0 0 17 [(0, .ref 0), (1, .int x1), (2, .int x2), (3, .int x3)] [.int (if 1 ≤ x2 ∧ x2 ≤ 6 then 1 else 0), .ref 0]
      refine a_ite (fun (c_3 : 1 ≤ x2 ∧ x2 ≤ 6) => ?_) (fun (c_3 : ¬ (1 ≤ x2 ∧ x2 ≤ 6)) => ?_)
      · refine a_if_eq (tgt := 31) F dX12_best_17 (by decide) (fun (c_4 : (1 : Int32) = 0) => ?_) (fun (c_4 : ¬ ((1 : Int32) = 0)) => ?_)
        · exact absurd c_4 (by decide)
        · refine a_iload_n F 3 dX12_best_20 rfl rfl ?_
          refine a_callS (As := [.int x3]) (st := [.ref 0]) F (c_isDie (xl X) (up2 I 0 0 0) A J x3) ml_12_236 sm_yX12_isDie (by decide) rfl dX12_best_21 (Nat.le_of_ble_eq_true rfl) (Nat.le_refl 0) (Nat.le_refl 0) (hl_r (by decide) (hl_i (hl_i (hl_i hl_nil)))) (hs_r (by decide) hs_nil) ?_
          rintro _ _ _ ⟨rfl, rfl, rfl⟩ _
          show WA X (mS (up2 I 0 0 0) A J) plM 0 0 24 [(0, .ref 0), (1, .int x1), (2, .int x2), (3, .int x3)] [.int (if 1 ≤ x3 ∧ x3 ≤ 6 then 1 else 0), .ref 0]
          refine a_ite (fun (c_5 : 1 ≤ x3 ∧ x3 ≤ 6) => ?_) (fun (c_5 : ¬ (1 ≤ x3 ∧ x3 ≤ 6)) => ?_)
          · refine a_if_eq (tgt := 31) F dX12_best_24 (by decide) (fun (c_6 : (1 : Int32) = 0) => ?_) (fun (c_6 : ¬ ((1 : Int32) = 0)) => ?_)
            · exact absurd c_6 (by decide)
            · refine a_iconst (v := 1) F dX12_best_27 (by decide) ?_
              refine a_goto (tgt := 32) F dX12_best_28 (by decide) ?_
              refine a_iconst (v := 1) F dX12_best_32 (by decide) ?_
              refine a_callV (b := 0) (As := [.int 1, .int 1]) (st := []) (ci := 12) F (c_may1 (xl X) (up2 I 0 0 0) A J (1 : Int32) (by decide) rfl) ml_12_155 im_yX12_may se_yX12_may (by decide) (by decide) rfl (by decide) rfl rfl dX12_best_33 (by decide) (Nat.le_refl 0) (Nat.le_refl 0) (hl_r (by decide) (hl_i (hl_i (hl_i hl_nil)))) hs_nil ?_
              rintro _ _ _ ⟨rfl, rfl, rfl⟩ _
              show WA X (mS (up2 I 0 0 0) A J) plM 0 0 36 [(0, .ref 0), (1, .int x1), (2, .int x2), (3, .int x3)] [.int 1]
              refine a_if_eq (tgt := 52) F dX12_best_36 (by decide) (fun (c_7 : (1 : Int32) = 0) => ?_) (fun (c_7 : ¬ ((1 : Int32) = 0)) => ?_)
              · exact absurd c_7 (by decide)
              · refine a_aload_n F 0 dX12_best_39 rfl rfl ?_
                refine a_aload_n F 0 dX12_best_40 rfl rfl ?_
                refine a_iload_n F 1 dX12_best_41 rfl rfl ?_
                refine a_callV (b := 0) (As := [.int x1]) (st := [.ref 0]) (ci := 12) F (c_isKnown (xl X) (up2 I 0 0 0) A J x1 (o_1 c_1 c_3 c_5)) ml_12_398 im_yX12_isKnown se_yX12_isKnown (by decide) (by decide) rfl (by decide) rfl rfl dX12_best_42 (Nat.le_of_ble_eq_true rfl) (Nat.le_refl 0) (Nat.le_refl 0) (hl_r (by decide) (hl_i (hl_i (hl_i hl_nil)))) (hs_r (by decide) hs_nil) ?_
                rintro _ _ _ ⟨rfl, rfl, rfl⟩ _
                show WA X (mS (up2 I 0 0 0) A J) plM 0 0 45 [(0, .ref 0), (1, .int x1), (2, .int x2), (3, .int x3)] [.int (if nI (pipS x1.toNatClampNeg) ≤ (I 0 55) then 1 else 0), .ref 0]
                refine a_ite (fun (c_8 : nI (pipS x1.toNatClampNeg) ≤ (I 0 55)) => ?_) (fun (c_8 : ¬ (nI (pipS x1.toNatClampNeg) ≤ (I 0 55))) => ?_)
                · refine a_iconst (v := 2) F dX12_best_45 (by decide) ?_
                  refine a_callV (b := 0) (As := [.int 1, .int 2]) (st := []) (ci := 12) F (c_may1 (xl X) (up2 I 0 0 0) A J (2 : Int32) (by decide) rfl) ml_12_155 im_yX12_may se_yX12_may (by decide) (by decide) rfl (by decide) rfl rfl dX12_best_46 (by decide) (Nat.le_refl 0) (Nat.le_refl 0) (hl_r (by decide) (hl_i (hl_i (hl_i hl_nil)))) hs_nil ?_
                  rintro _ _ _ ⟨rfl, rfl, rfl⟩ _
                  show WA X (mS (up2 I 0 0 0) A J) plM 0 0 49 [(0, .ref 0), (1, .int x1), (2, .int x2), (3, .int x3)] [.int 1]
                  refine a_if_ne (tgt := 54) F dX12_best_49 (by decide) (fun (c_9 : ¬ (1 : Int32) = 0) => ?_) (fun (c_9 : (1 : Int32) = 0) => ?_)
                  · refine a_aload_n F 0 dX12_best_54 rfl rfl ?_
                    exact e_2 c_1 c_3 c_5 c_8
                  · exact absurd c_9 (by decide)
                · refine a_iconst (v := 2) F dX12_best_45 (by decide) ?_
                  refine a_callV (b := 0) (As := [.int 0, .int 2]) (st := []) (ci := 12) F (c_may0 (xl X) (up2 I 0 0 0) A J (2 : Int32) (by decide) rfl) ml_12_155 im_yX12_may se_yX12_may (by decide) (by decide) rfl (by decide) rfl rfl dX12_best_46 (by decide) (Nat.le_refl 0) (Nat.le_refl 0) (hl_r (by decide) (hl_i (hl_i (hl_i hl_nil)))) hs_nil ?_
                  rintro _ _ _ ⟨rfl, rfl, rfl⟩ _
                  show WA X (mS (up2 (up2 I 0 0 0) 0 0 (2 : Int32)) A J) plM 0 0 49 [(0, .ref 0), (1, .int x1), (2, .int x2), (3, .int x3)] [.int 0]
                  refine a_if_ne (tgt := 54) F dX12_best_49 (by decide) (fun (c_10 : ¬ (0 : Int32) = 0) => ?_) (fun (c_10 : (0 : Int32) = 0) => ?_)
                  · exact absurd c_10 (by decide)
                  · refine a_iconst (v := 0) F dX12_best_52 (by decide) ?_
                    exact a_iret F E dX12_best_53 (Nat.le_refl 0) (Nat.le_refl 0) (e_3 c_1 c_3 c_5 c_8)
          · refine a_if_eq (tgt := 31) F dX12_best_24 (by decide) (fun (c_11 : (0 : Int32) = 0) => ?_) (fun (c_11 : ¬ ((0 : Int32) = 0)) => ?_)
            · refine a_iconst (v := 0) F dX12_best_31 (by decide) ?_
              refine a_iconst (v := 1) F dX12_best_32 (by decide) ?_
              refine a_callV (b := 0) (As := [.int 0, .int 1]) (st := []) (ci := 12) F (c_may0 (xl X) (up2 I 0 0 0) A J (1 : Int32) (by decide) rfl) ml_12_155 im_yX12_may se_yX12_may (by decide) (by decide) rfl (by decide) rfl rfl dX12_best_33 (by decide) (Nat.le_refl 0) (Nat.le_refl 0) (hl_r (by decide) (hl_i (hl_i (hl_i hl_nil)))) hs_nil ?_
              rintro _ _ _ ⟨rfl, rfl, rfl⟩ _
              show WA X (mS (up2 (up2 I 0 0 0) 0 0 (1 : Int32)) A J) plM 0 0 36 [(0, .ref 0), (1, .int x1), (2, .int x2), (3, .int x3)] [.int 0]
              refine a_if_eq (tgt := 52) F dX12_best_36 (by decide) (fun (c_12 : (0 : Int32) = 0) => ?_) (fun (c_12 : ¬ ((0 : Int32) = 0)) => ?_)
              · refine a_iconst (v := 0) F dX12_best_52 (by decide) ?_
                exact a_iret F E dX12_best_53 (Nat.le_refl 0) (Nat.le_refl 0) (e_4 c_1 c_3 c_5)
              · exact absurd c_12 (by decide)
            · exact absurd c_11 (by decide)
      · refine a_if_eq (tgt := 31) F dX12_best_17 (by decide) (fun (c_13 : (0 : Int32) = 0) => ?_) (fun (c_13 : ¬ ((0 : Int32) = 0)) => ?_)
        · refine a_iconst (v := 0) F dX12_best_31 (by decide) ?_
          refine a_iconst (v := 1) F dX12_best_32 (by decide) ?_
          refine a_callV (b := 0) (As := [.int 0, .int 1]) (st := []) (ci := 12) F (c_may0 (xl X) (up2 I 0 0 0) A J (1 : Int32) (by decide) rfl) ml_12_155 im_yX12_may se_yX12_may (by decide) (by decide) rfl (by decide) rfl rfl dX12_best_33 (by decide) (Nat.le_refl 0) (Nat.le_refl 0) (hl_r (by decide) (hl_i (hl_i (hl_i hl_nil)))) hs_nil ?_
          rintro _ _ _ ⟨rfl, rfl, rfl⟩ _
          show WA X (mS (up2 (up2 I 0 0 0) 0 0 (1 : Int32)) A J) plM 0 0 36 [(0, .ref 0), (1, .int x1), (2, .int x2), (3, .int x3)] [.int 0]
          refine a_if_eq (tgt := 52) F dX12_best_36 (by decide) (fun (c_14 : (0 : Int32) = 0) => ?_) (fun (c_14 : ¬ ((0 : Int32) = 0)) => ?_)
          · refine a_iconst (v := 0) F dX12_best_52 (by decide) ?_
            exact a_iret F E dX12_best_53 (Nat.le_refl 0) (Nat.le_refl 0) (e_5 c_1 c_3)
          · exact absurd c_14 (by decide)
        · exact absurd c_13 (by decide)
  · refine a_if_eq (tgt := 31) F dX12_best_10 (by decide) (fun (c_15 : (0 : Int32) = 0) => ?_) (fun (c_15 : ¬ ((0 : Int32) = 0)) => ?_)
    · refine a_iconst (v := 0) F dX12_best_31 (by decide) ?_
      refine a_iconst (v := 1) F dX12_best_32 (by decide) ?_
      refine a_callV (b := 0) (As := [.int 0, .int 1]) (st := []) (ci := 12) F (c_may0 (xl X) (up2 I 0 0 0) A J (1 : Int32) (by decide) rfl) ml_12_155 im_yX12_may se_yX12_may (by decide) (by decide) rfl (by decide) rfl rfl dX12_best_33 (by decide) (Nat.le_refl 0) (Nat.le_refl 0) (hl_r (by decide) (hl_i (hl_i (hl_i hl_nil)))) hs_nil ?_
      rintro _ _ _ ⟨rfl, rfl, rfl⟩ _
      show WA X (mS (up2 (up2 I 0 0 0) 0 0 (1 : Int32)) A J) plM 0 0 36 [(0, .ref 0), (1, .int x1), (2, .int x2), (3, .int x3)] [.int 0]
      refine a_if_eq (tgt := 52) F dX12_best_36 (by decide) (fun (c_16 : (0 : Int32) = 0) => ?_) (fun (c_16 : ¬ ((0 : Int32) = 0)) => ?_)
      · refine a_iconst (v := 0) F dX12_best_52 (by decide) ?_
        exact a_iret F E dX12_best_53 (Nat.le_refl 0) (Nat.le_refl 0) (e_6 c_1)
      · exact absurd c_16 (by decide)
    · exact absurd c_15 (by decide)

theorem r_12_best_58 {X : Ctx} (F : Fx X cX12_best RX12 4 5 0 0) {Φ : Option Value → HS → List Nat → Prop} (E : Ex X (some .int) 0 0 Φ) {I A : Nat → Nat → Int32} {J : Nat → Nat → Int64} {x1 x2 x3 : Int32}
    (o_1 : (¬ x1 = 0) → stdI x1)
    (o_2 : (¬ x1 = 0) → chT (A 52))
    (o_3 : (¬ x1 = 0) → diceP x2 x3)
    (o_4 : (¬ x1 = 0) → vp_in ((21 * (nmI x1)) + (dnI x2 x3)) 1139544)
    (o_5 : (¬ x1 = 0) → vp_in (A 50 ((21 * (nmI x1)) + (dnI x2 x3)).toNatClampNeg) 54264)
    (e_6 : (¬ x1 = 0) → Φ (some (.int (A 51 (A 50 ((21 * (nmI x1)) + (dnI x2 x3)).toNatClampNeg).toNatClampNeg))) (mS I A J) plM)
    (e_7 : (x1 = 0) → Φ (some (.int 0)) (mS I A J) plM) :
    WA X (mS I A J) plM 0 0 58 [(0, .ref 0), (1, .int x1), (2, .int x2), (3, .int x3)] [] := by
  refine a_iload_n F 1 dX12_best_58 rfl rfl ?_
  refine a_if_ne (tgt := 66) F dX12_best_59 (by decide) (fun (c_17 : ¬ x1 = 0) => ?_) (fun (c_17 : x1 = 0) => ?_)
  · refine a_aload_n F 0 dX12_best_66 rfl rfl ?_
    refine a_getr (b := 51) F fl_12_88 rfl (by decide) rfl rfl dX12_best_67 ?_
    refine a_aload_n F 0 dX12_best_70 rfl rfl ?_
    refine a_getr (b := 50) F fl_12_84 rfl (by decide) rfl rfl dX12_best_71 ?_
    refine a_bipush (v := 21) F dX12_best_74 (by decide) ?_
    refine a_aload_n F 0 dX12_best_76 rfl rfl ?_
    refine a_iload_n F 1 dX12_best_77 rfl rfl ?_
    refine a_callV (b := 0) (As := [.int x1]) (st := [.int 21, .ref 50, .ref 51]) (ci := 12) F (c_numberOfI (xl X) I A J x1 (o_1 c_17) (o_2 c_17)) ml_12_375 im_yX12_numberOf se_yX12_numberOf (by decide) (by decide) rfl (by decide) rfl rfl dX12_best_78 (Nat.le_of_ble_eq_true rfl) (Nat.le_refl 0) (Nat.le_refl 0) (hl_r (by decide) (hl_i (hl_i (hl_i hl_nil)))) (hs_i (hs_r (by decide) (hs_r (by decide) hs_nil))) ?_
    rintro _ _ _ ⟨rfl, rfl, rfl⟩ _
    show WA X (mS I A J) plM 0 0 81 [(0, .ref 0), (1, .int x1), (2, .int x2), (3, .int x3)] [.int (nmI x1), .int 21, .ref 50, .ref 51]
    refine a_imul F dX12_best_81 ?_
    refine a_iload_n F 2 dX12_best_82 rfl rfl ?_
    refine a_iload_n F 3 dX12_best_83 rfl rfl ?_
    refine a_callS (As := [.int x2, .int x3]) (st := [.int (21 * (nmI x1)), .ref 50, .ref 51]) F (c_diceNumber (xl X) I A J x2 x3 (o_3 c_17)) ml_12_385 sm_yX12_diceNumber (by decide) rfl dX12_best_84 (Nat.le_of_ble_eq_true rfl) (Nat.le_refl 0) (Nat.le_refl 0) (hl_r (by decide) (hl_i (hl_i (hl_i hl_nil)))) (hs_i (hs_r (by decide) (hs_r (by decide) hs_nil))) ?_
    rintro _ _ _ ⟨rfl, rfl, rfl⟩ _
    show WA X (mS I A J) plM 0 0 87 [(0, .ref 0), (1, .int x1), (2, .int x2), (3, .int x3)] [.int (dnI x2 x3), .int (21 * (nmI x1)), .ref 50, .ref 51]
    refine a_iadd F dX12_best_87 ?_
    refine a_iald F (by decide) rfl (o_4 c_17) dX12_best_88 ?_
    refine a_iald F (by decide) rfl (o_5 c_17) dX12_best_89 ?_
    exact a_iret F E dX12_best_90 (Nat.le_refl 0) (Nat.le_refl 0) (e_6 c_17)
  · refine a_iconst (v := 0) F dX12_best_62 (by decide) ?_
    refine a_goto (tgt := 90) F dX12_best_63 (by decide) ?_
    exact a_iret F E dX12_best_90 (Nat.le_refl 0) (Nat.le_refl 0) (e_7 c_17)

set_option maxRecDepth 10000 in
theorem c_best (l : Launch) (I A : Nat → Nat → Int32) (J : Nat → Nat → Int64) (x a b : Int32) (L : Nat) (hb : boS I A L) : Con l 5 yX12_best cX12_best 4 (some .int) [.ref 0, .int x, .int a, .int b] (mS I A J) plM 0 0 (besQ I A J x a b L) := by
  refine Con.of (by decide) (Nat.le_of_ble_eq_true rfl) (fun X hX9 hn9 F E => ?_)
  have hL := hb.2.1
  refine r_12_best_0 F E (fun h _ _ => h.1) (fun h1 h2 h3 h4 => ?_) (fun h1 h2 h3 h4 => ⟨fun z => absurd ⟨h1, h2, h3⟩ z, fun _ _ => ⟨rfl, by rw [up2_up2], rfl⟩, fun _ z => ?_⟩) (fun _ _ h => ⟨fun _ => ⟨rfl, by rw [up2_up2], rfl⟩, fun z => absurd z.2.2 h, fun z => absurd z.2 h⟩) (fun _ h => ⟨fun _ => ⟨rfl, by rw [up2_up2], rfl⟩, fun z => absurd z.2.1 h, fun z => absurd z.1 h⟩) (fun h => ⟨fun _ => ⟨rfl, by rw [up2_up2], rfl⟩, fun z => absurd z.1 h, fun _ z => absurd z.1 h⟩)
  · obtain ⟨s, hs, rfl⟩ := std_of h1
    have h6 : s < 16777216 := hs.1
    have hp90 := pip_90 hs
    obtain ⟨a, ha, rfl⟩ := nI_of2 (x := a) (M := 6) (n := 6) rfl (fun z => by have := h2.1; grind) h2.2
    obtain ⟨b, hb6, rfl⟩ := nI_of2 (x := b) (M := 6) (n := 6) rfl (fun z => by have := h3.1; grind) h3.2
    have ha1 : 1 ≤ a := (nI_gen 1 (by omega) (by omega)).mp h2.1
    have hb1 : 1 ≤ b := (nI_gen 1 (by omega) (by omega)).mp h3.1
    rw [nI_clamp (by omega), hb.1] at h4
    have hpL : pipS s ≤ L := (nI_leI (by omega) (by omega)).mp h4
    refine a_callV (b := 0) (As := []) (st := []) (ci := 12) F (c_ready (xl X) (up2 I 0 0 0) A J (bo_56 hb)) ml_12_369 im_yX12_ready se_yX12_ready (by decide) (by decide) rfl (by decide) rfl rfl dX12_best_55 (by decide) (Nat.le_refl 0) (Nat.le_refl 0) (hl_r (by decide) (hl_i (hl_i (hl_i hl_nil)))) hs_nil ?_
    rintro _ _ _ ⟨I0, A0, rfl, rfl, rfl, hr0, k1, k2, k3⟩ _
    have hb0 := bo_rdy hb hr0 k1 k2 k3
    have fI : ∀ k, k ≠ 0 → k ≠ 56 → I0 0 k = I 0 k := fun k q1 q2 => by rw [k1 k q2, u2n q1]
    have fin : ∀ v, v = nI (bst (eF 36) s a b) → besQ I A J (nI s) (nI a) (nI b) L (some (.int v)) (mS I0 A0 J) plM := fun v hv => by
      refine ⟨fun z => absurd ⟨h1, h2, h3⟩ z, fun _ z => absurd (by rw [nI_clamp (by omega)]; exact hpL) z, fun _ _ => ⟨I0, A0, ?_, rfl, rfl, ?_, hb0, fI, k2⟩⟩
      · rw [hv, nI_clamp (by omega), nI_clamp (by omega), nI_clamp (by omega)]
      · rw [k1 0 (by decide)]; exact u2s
    have en : nmI (nI s) = nI (num s) := by unfold nmI; rw [nI_clamp (by omega)]
    have hn := num_lt hs
    have hdl : dnN a b < 21 := by
      rcases Nat.le_total b a with c | c
      · exact dn_lt a (by omega) b (by omega) hb1 c
      · rcases dn_sym a (by omega) b (by omega) with z | z | z
        · rw [z]; exact dn_lt b (by omega) a (by omega) ha1 c
        · omega
        · omega
    have e1 : 21 * nmI (nI s) + dnI (nI a) (nI b) = nI (21 * num s + dnN a b) := by
      unfold dnI; rw [en, nI_clamp (by omega), nI_clamp (by omega), lit 21, pk_mul, nI_add]
    show WA X (mS I0 A0 J) plM 0 0 58 [(0, .ref 0), (1, .int (nI s)), (2, .int (nI a)), (3, .int (nI b))] []
    by_cases c0 : s = 0
    · subst c0
      exact r_12_best_58 F E (fun z => absurd rfl z) (fun z => absurd rfl z) (fun z => absurd rfl z) (fun z => absurd rfl z) (fun z => absurd rfl z) (fun z => absurd rfl z) (fun _ => fin 0 (by rw [bst_0 ha1 hb1]; rfl))
    · have n0 : ¬ nI s = 0 := fun z => c0 ((nI_z (by omega)).mp z)
      have hd := hb0.2.2.2 s hs hpL
      have hbe := dn_best hd hs c0 ⟨ha1, ha⟩ ⟨hb1, hb6⟩
      obtain ⟨tk1, tk2⟩ := bst_k (a := a) (b := b) hs ha1 hb1 hpL
      have tn := num_lt tk1
      exact r_12_best_58 F E (fun _ => h1) (fun _ => hr0.2.1) (fun _ => ⟨h2, h3⟩) (fun _ => by rw [e1]; exact vp_in_nI (by omega) (by omega)) (fun _ => by rw [e1, nI_clamp (by omega), hbe]; exact vp_in_nI (by omega) (by omega)) (fun _ => fin _ (by rw [e1, nI_clamp (by omega), hbe, nI_clamp (by omega)]; exact (hb0.2.2.2 _ tk1 tk2).2.2.1)) (fun z => absurd z n0)
  · have h6 := h1.2.1
    obtain ⟨s, hs, rfl⟩ := std_of h1
    have h6 : s < 16777216 := hs.1
    have hp90 := pip_90 hs
    have hz := z.2
    rw [nI_clamp (by omega)] at hz h4
    rw [hb.1] at h4
    exact absurd ((nI_leI (by omega) (by omega)).mpr hz) h4
