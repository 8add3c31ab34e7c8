/-- v has n decimal digits -/
def numD (v n : Nat) : Prop := 1 ≤ n ∧ v < 10 ^ n ∧ (n = 1 ∨ 10 ^ (n - 1) ≤ v)
theorem numD_u {v n n' : Nat} (h : numD v n) (h' : numD v n') : n = n' := by
  obtain ⟨a1, a2, a3⟩ := h; obtain ⟨b1, b2, b3⟩ := h'
  rcases Nat.lt_trichotomy n n' with c | c | c
  · exfalso
    have := Nat.pow_le_pow_right (n := 10) (by decide) (show n ≤ n' - 1 by omega)
    rcases b3 with z | z <;> omega
  · exact c
  · exfalso
    have := Nat.pow_le_pow_right (n := 10) (by decide) (show n' ≤ n - 1 by omega)
    rcases a3 with z | z <;> omega
def dcd (v n i : Nat) : Nat := 48 + v / 10 ^ (n - 1 - i) % 10
/-- how often p goes into u, at most so often -/
def lessN (u p most n : Nat) : Prop := n ≤ most ∧ p ^ n ∣ u ∧ (n < most → ¬ p ^ (n + 1) ∣ u)
def whQ (I A : Nat → Nat → Int32) (J : Nat → Nat → Int64) (q v o : Nat) : Option Value → HS → List Nat → Prop := fun r σ' pl' => ∃ I' A' n, r = none ∧ σ' = mS I' A' J ∧ pl' = plM ∧ (∀ k, k ≠ 61 → I' 0 k = I 0 k) ∧ I' 0 61 = nI (o + n) ∧ numD v n ∧ n ≤ 102 ∧ (∀ i, i < n → A' 59 (o + i) = nI (dcd v n i)) ∧ (∀ j, j < o → A' 59 j = A 59 j) ∧ ∀ p, p ≠ 59 → p ≠ 60 → p ≠ q → A' p = A p

theorem r_12_printWhole_0 {X : Ctx} (F : Fx X cX12_printWhole RX12 4 2 0 0) {I A : Nat → Nat → Int32} {J : Nat → Nat → Int64} {q1 : Nat} (hp_q1 : q1 ∈ plM) (hk_q1 : kM q1 = 13)
    (e_1 : WA X (mS I A J) plM 0 0 2 [(0, .ref 0), (1, .ref q1), (2, .int 0)] []) :
    WA X (mS I A J) plM 0 0 0 [(0, .ref 0), (1, .ref q1)] [] := by
  refine a_iconst (v := 0) F dX12_printWhole_0 (by decide) ?_
  refine a_istore_n F dX12_printWhole_1 rfl (by decide) rfl ?_
  refine a_sub [1, 2, 0] rfl ?_
  exact e_1

theorem r_12_printWhole_2 {X : Ctx} (F : Fx X cX12_printWhole RX12 4 2 0 0) {I A : Nat → Nat → Int32} {J : Nat → Nat → Int64} {x2 : Int32} {q1 : Nat} (hp_q1 : q1 ∈ plM) (hk_q1 : kM q1 = 13)
    (o_1 : digV (A q1) (nM q1))
    (o_2 : nM q1 ≤ 400)
    (o_3 : 1 ≤ (10 : Int32) ∧ (10 : Int32) ≤ 64)
    (o_4 : vp_in x2 400)
    (o_5 : digV ((up1 (up1 A q1 (putR (A q1) (nM q1) (valR (A q1) (nM q1) / (10 : Int32).toNatClampNeg))) 60 (upd ((up1 A q1 (putR (A q1) (nM q1) (valR (A q1) (nM q1) / (10 : Int32).toNatClampNeg))) 60) x2.toNatClampNeg (nI (valR (A q1) (nM q1) % (10 : Int32).toNatClampNeg)))) q1) (nM q1))
    (o_6 : nM q1 ≤ 400)
    (e_7 : (valR ((up1 (up1 A q1 (putR (A q1) (nM q1) (valR (A q1) (nM q1) / (10 : Int32).toNatClampNeg))) 60 (upd ((up1 A q1 (putR (A q1) (nM q1) (valR (A q1) (nM q1) / (10 : Int32).toNatClampNeg))) 60) x2.toNatClampNeg (nI (valR (A q1) (nM q1) % (10 : Int32).toNatClampNeg)))) q1) (nM q1) = 0) → WA X (mS I (up1 (up1 A q1 (putR (A q1) (nM q1) (valR (A q1) (nM q1) / (10 : Int32).toNatClampNeg))) 60 (upd ((up1 A q1 (putR (A q1) (nM q1) (valR (A q1) (nM q1) / (10 : Int32).toNatClampNeg))) 60) x2.toNatClampNeg (nI (valR (A q1) (nM q1) % (10 : Int32).toNatClampNeg)))) J) plM 0 0 24 [(0, .ref 0), (1, .ref q1), (2, .int (x2 + 1))] [])
    (e_8 : (¬ (valR ((up1 (up1 A q1 (putR (A q1) (nM q1) (valR (A q1) (nM q1) / (10 : Int32).toNatClampNeg))) 60 (upd ((up1 A q1 (putR (A q1) (nM q1) (valR (A q1) (nM q1) / (10 : Int32).toNatClampNeg))) 60) x2.toNatClampNeg (nI (valR (A q1) (nM q1) % (10 : Int32).toNatClampNeg)))) q1) (nM q1) = 0)) → WA X (mS I (up1 (up1 A q1 (putR (A q1) (nM q1) (valR (A q1) (nM q1) / (10 : Int32).toNatClampNeg))) 60 (upd ((up1 A q1 (putR (A q1) (nM q1) (valR (A q1) (nM q1) / (10 : Int32).toNatClampNeg))) 60) x2.toNatClampNeg (nI (valR (A q1) (nM q1) % (10 : Int32).toNatClampNeg)))) J) plM 0 0 2 [(0, .ref 0), (1, .ref q1), (2, .int (x2 + 1))] []) :
    WA X (mS I A J) plM 0 0 2 [(0, .ref 0), (1, .ref q1), (2, .int x2)] [] := by
  refine a_aload_n F 0 dX12_printWhole_2 rfl rfl ?_
  refine a_getr (b := 60) F fl_12_106 rfl (by decide) rfl rfl dX12_printWhole_3 ?_
  refine a_iload_n F 2 dX12_printWhole_6 rfl rfl ?_
  refine a_aload_n F 1 dX12_printWhole_7 rfl rfl ?_
  refine a_bipush (v := 10) F dX12_printWhole_8 (by decide) ?_
  refine a_callS (As := [.ref q1, .int 10]) (st := [.int x2, .ref 60]) F (c_overI (xl X) I A J q1 (10 : Int32) hp_q1 hk_q1 (o_2) (o_1) (o_3)) ml_12_391 sm_yX12_over (by decide) rfl dX12_printWhole_10 (Nat.le_of_ble_eq_true rfl) (Nat.le_refl 0) (Nat.le_refl 0) (hl_r (by decide) (hl_r (hp_q1) (hl_i hl_nil))) (hs_i (hs_r (by decide) hs_nil)) ?_
  rintro _ _ _ ⟨rfl, rfl, rfl⟩ _
  show WA X (mS I (up1 A q1 (putR (A q1) (nM q1) (valR (A q1) (nM q1) / (10 : Int32).toNatClampNeg))) J) plM 0 0 13 [(0, .ref 0), (1, .ref q1), (2, .int x2)] [.int (nI (valR (A q1) (nM q1) % (10 : Int32).toNatClampNeg)), .int x2, .ref 60]
  refine a_iast F (by decide) rfl (o_4) dX12_printWhole_13 ?_
  refine a_iinc (v := x2 + 1) F 2 dX12_printWhole_14 rfl rfl (by decide) rfl ?_
  refine a_aload_n F 2 dX12_printWhole_17 rfl rfl ?_
  refine a_callS (As := [.ref q1]) (st := []) F (c_isZero (xl X) I (up1 (up1 A q1 (putR (A q1) (nM q1) (valR (A q1) (nM q1) / (10 : Int32).toNatClampNeg))) 60 (upd ((up1 A q1 (putR (A q1) (nM q1) (valR (A q1) (nM q1) / (10 : Int32).toNatClampNeg))) 60) x2.toNatClampNeg (nI (valR (A q1) (nM q1) % (10 : Int32).toNatClampNeg)))) J q1 hp_q1 hk_q1 (o_6) (o_5)) ml_12_401 sm_yX12_isZero (by decide) rfl dX12_printWhole_18 (by decide) (Nat.le_refl 0) (Nat.le_refl 0) (hl_i (hl_r (by decide) (hl_r (hp_q1) hl_nil))) hs_nil ?_
  rintro _ _ _ ⟨rfl, rfl, rfl⟩ _
  show WA X (mS I (up1 (up1 A q1 (putR (A q1) (nM q1) (valR (A q1) (nM q1) / (10 : Int32).toNatClampNeg))) 60 (upd ((up1 A q1 (putR (A q1) (nM q1) (valR (A q1) (nM q1) / (10 : Int32).toNatClampNeg))) 60) x2.toNatClampNeg (nI (valR (A q1) (nM q1) % (10 : Int32).toNatClampNeg)))) J) plM 0 0 21 [(2, .int (x2 + 1)), (0, .ref 0), (1, .ref q1)] [.int (if valR ((up1 (up1 A q1 (putR (A q1) (nM q1) (valR (A q1) (nM q1) / (10 : Int32).toNatClampNeg))) 60 (upd ((up1 A q1 (putR (A q1) (nM q1) (valR (A q1) (nM q1) / (10 : Int32).toNatClampNeg))) 60) x2.toNatClampNeg (nI (valR (A q1) (nM q1) % (10 : Int32).toNatClampNeg)))) q1) (nM q1) = 0 then 1 else 0)]
  refine a_ite (fun (c_1 : valR ((up1 (up1 A q1 (putR (A q1) (nM q1) (valR (A q1) (nM q1) / (10 : Int32).toNatClampNeg))) 60 (upd ((up1 A q1 (putR (A q1) (nM q1) (valR (A q1) (nM q1) / (10 : Int32).toNatClampNeg))) 60) x2.toNatClampNeg (nI (valR (A q1) (nM q1) % (10 : Int32).toNatClampNeg)))) q1) (nM q1) = 0) => ?_) (fun (c_1 : ¬ (valR ((up1 (up1 A q1 (putR (A q1) (nM q1) (valR (A q1) (nM q1) / (10 : Int32).toNatClampNeg))) 60 (upd ((up1 A q1 (putR (A q1) (nM q1) (valR (A q1) (nM q1) / (10 : Int32).toNatClampNeg))) 60) x2.toNatClampNeg (nI (valR (A q1) (nM q1) % (10 : Int32).toNatClampNeg)))) q1) (nM q1) = 0)) => ?_)
  · refine a_if_eq (tgt := 2) F dX12_printWhole_21 (by decide) (fun (c_2 : (1 : Int32) = 0) => ?_) (fun (c_2 : ¬ ((1 : Int32) = 0)) => ?_)
    · exact absurd c_2 (by decide)
    · refine a_sub [1, 2, 0] rfl ?_
      exact e_7 c_1
  · refine a_if_eq (tgt := 2) F dX12_printWhole_21 (by decide) (fun (c_3 : (0 : Int32) = 0) => ?_) (fun (c_3 : ¬ ((0 : Int32) = 0)) => ?_)
    · refine a_sub [1, 2, 0] rfl ?_
      exact e_8 c_1
    · exact absurd c_3 (by decide)

theorem r_12_printWhole_24 {X : Ctx} (F : Fx X cX12_printWhole RX12 4 2 0 0) {I A : Nat → Nat → Int32} {J : Nat → Nat → Int64} {x2 : Int32} {q1 : Nat} (hp_q1 : q1 ∈ plM) (hk_q1 : kM q1 = 13)
    (e_1 : WA X (mS I A J) plM 0 0 28 [(0, .ref 0), (1, .ref q1), (2, .int x2), (3, .int (x2 - 1))] []) :
    WA X (mS I A J) plM 0 0 24 [(0, .ref 0), (1, .ref q1), (2, .int x2)] [] := by
  refine a_iload_n F 2 dX12_printWhole_24 rfl rfl ?_
  refine a_iconst (v := 1) F dX12_printWhole_25 (by decide) ?_
  refine a_isub F dX12_printWhole_26 ?_
  refine a_istore_n F dX12_printWhole_27 rfl (by decide) rfl ?_
  refine a_sub [1, 2, 3, 0] rfl ?_
  exact e_1

theorem r_12_printWhole_28 {X : Ctx} (F : Fx X cX12_printWhole RX12 4 2 0 0) {Φ : Option Value → HS → List Nat → Prop} (E : Ex X none 0 0 Φ) {I A : Nat → Nat → Int32} {J : Nat → Nat → Int64} {x2 x3 : Int32} {q1 : Nat} (hp_q1 : q1 ∈ plM) (hk_q1 : kM q1 = 13)
    (e_1 : (x3 < 0) → Φ none (mS I A J) plM)
    (o_2 : (¬ (x3 < 0)) → vp_in x3 400)
    (o_3 : (¬ (x3 < 0)) → vp_in (I 0 61) 400)
    (e_4 : (¬ (x3 < 0)) → WA X (mS (up2 I 0 61 ((I 0 61) + 1)) (up1 A 59 (upd (A 59) (I 0 61).toNatClampNeg (48 + (A 60 x3.toNatClampNeg)))) J) plM 0 0 28 [(0, .ref 0), (1, .ref q1), (2, .int x2), (3, .int (x3 + (-1)))] []) :
    WA X (mS I A J) plM 0 0 28 [(0, .ref 0), (1, .ref q1), (2, .int x2), (3, .int x3)] [] := by
  refine a_iload_n F 3 dX12_printWhole_28 rfl rfl ?_
  refine a_if_lt (tgt := 66) F dX12_printWhole_29 (by decide) (fun (c_4 : x3 < 0) => ?_) (fun (c_4 : ¬ (x3 < 0)) => ?_)
  · exact a_vret F E dX12_printWhole_66 (Nat.le_refl 0) (Nat.le_refl 0) (e_1 c_4)
  · refine a_aload_n F 0 dX12_printWhole_32 rfl rfl ?_
    refine a_getr (b := 59) F fl_12_103 rfl (by decide) rfl rfl dX12_printWhole_33 ?_
    refine a_aload_n F 0 dX12_printWhole_36 rfl rfl ?_
    refine a_geti F fl_12_170 rfl (by decide) rfl dX12_printWhole_37 ?_
    refine a_bipush (v := 48) F dX12_printWhole_40 (by decide) ?_
    refine a_aload_n F 0 dX12_printWhole_42 rfl rfl ?_
    refine a_getr (b := 60) F fl_12_106 rfl (by decide) rfl rfl dX12_printWhole_43 ?_
    refine a_iload_n F 3 dX12_printWhole_46 rfl rfl ?_
    refine a_iald F (by decide) rfl (o_2 c_4) dX12_printWhole_47 ?_
    refine a_iadd F dX12_printWhole_48 ?_
    refine a_iast F (by decide) rfl (o_3 c_4) dX12_printWhole_49 ?_
    refine a_aload_n F 0 dX12_printWhole_50 rfl rfl ?_
    refine a_dup F dX12_printWhole_51 rfl ?_
    refine a_geti F fl_12_170 rfl (by decide) rfl dX12_printWhole_52 ?_
    refine a_iconst (v := 1) F dX12_printWhole_55 (by decide) ?_
    refine a_iadd F dX12_printWhole_56 ?_
    refine a_puti F fl_12_170 rfl rfl rfl rfl (by decide) rfl dX12_printWhole_57 ?_
    refine a_iinc (v := x3 + (-1)) F 3 dX12_printWhole_60 rfl rfl (by decide) rfl ?_
    refine a_goto (tgt := 28) F dX12_printWhole_63 (by decide) ?_
    refine a_sub [1, 2, 3, 0] rfl ?_
    exact e_4 c_4

set_option maxRecDepth 10000 in
theorem c_printWhole (l : Launch) (I A : Nat → Nat → Int32) (J : Nat → Nat → Int64) (q v o : Nat) (hq : q ∈ plM) (hk : kM q = 13) (hn : nM q = 12) (hq59 : q ≠ 59) (hq60 : q ≠ 60) (hd : digV (A q) 12) (hv : valR (A q) 12 = v) (h61 : I 0 61 = nI o) (ho : o ≤ 200) : Con l 2 yX12_printWhole cX12_printWhole 4 none [.ref 0, .ref q] (mS I A J) plM 0 0 (whQ I A J q v o) := by
  refine Con.of (by decide) (Nat.le_of_ble_eq_true rfl) (fun X hX9 hn9 F E => ?_)
  have hvl : v < 10 ^ 102 := by rw [← hv]; exact Nat.lt_of_lt_of_le (val_lt _ hd) (by decide +kernel)
  have h10 : (10 : Int32).toNatClampNeg = 10 := rfl
  have prt : ∀ (n : Nat) (A1 : Nat → Nat → Int32), numD v n → n ≤ 102 → (∀ j, j < n → A1 60 j = nI (v / 10 ^ j % 10)) → (∀ p, p ≠ 60 → p ≠ q → A1 p = A p) → WA X (mS I A1 J) plM 0 0 24 [(0, .ref 0), (1, .ref q), (2, .int (nI n))] [] := by
    intro n A1 hnd hn102 h60 hfr
    refine r_12_printWhole_24 F hq hk ?_
    have a59 : A1 59 = A 59 := hfr 59 (by decide) (fun z => hq59 z.symm)
    have loop : ∀ k (I' A' : Nat → Nat → Int32), k ≤ n → I' 0 61 = nI (o + (n - k)) → (∀ j, j ≠ 61 → I' 0 j = I 0 j) → (∀ i, i < n - k → A' 59 (o + i) = nI (dcd v n i)) → (∀ j, j < o → A' 59 j = A 59 j) → (∀ p, p ≠ 59 → A' p = A1 p) → WA X (mS I' A' J) plM 0 0 28 [(0, .ref 0), (1, .ref q), (2, .int (nI n)), (3, .int (nI k + (-1)))] [] := by
      intro k
      induction k with
      | zero =>
        intro I' A' _ e61 eI e1 e2 e3
        have h0 : nI 0 + (-1) < 0 := by decide
        refine r_12_printWhole_28 F E hq hk (fun _ => ?_) (fun h => absurd h0 h) (fun h => absurd h0 h) (fun h => absurd h0 h)
        exact ⟨I', A', n, rfl, rfl, rfl, eI, e61, hnd, hn102, e1, e2, fun p p1 p2 p3 => (e3 p p1).trans (hfr p p2 p3)⟩
      | succ k ih =>
        intro I' A' hk2 e61 eI e1 e2 e3
        rw [nI_m1]
        have h0 : ¬ nI k < 0 := nI_pos (by omega)
        refine r_12_printWhole_28 F E hq hk (fun h => absurd h h0) (fun _ => vp_in_nI (by omega) (by omega)) (fun _ => by rw [e61]; exact vp_in_nI (by omega) (by omega)) (fun _ => ?_)
        have ed : 48 + A' 60 (nI k).toNatClampNeg = nI (dcd v n (n - (k + 1))) := by
          rw [nI_clamp (by omega), e3 60 (by decide), h60 k (by omega), lit 48, nI_add]; unfold dcd; rw [show n - 1 - (n - (k + 1)) = k by omega]
        rw [ed, e61, nI_clamp (by omega), nI_1]
        refine ih _ _ (by omega) (by rw [up2_s]; congr 1; omega) (fun j hj => by rw [up2_k hj]; exact eI j hj) (fun i hi => ?_) (fun j hj => ?_) (fun p hp => by rw [up1_p hp]; exact e3 p hp)
        · rw [up1_s]
          rcases Nat.lt_or_ge i (n - (k + 1)) with z | z
          · rw [upd_out (by omega)]; exact e1 i z
          · obtain rfl : i = n - (k + 1) := by omega
            rw [upd_in]
        · rw [up1_s, upd_out (by omega)]; exact e2 j hj
    have := loop n I A1 (Nat.le_refl _) (by rw [h61]; congr 1; omega) (fun _ _ => rfl) (fun i hi => by omega) (fun j hj => by rw [a59]) (fun _ _ => rfl)
    rw [show nI n - 1 = nI n + (-1) by grind]; exact this
  have loop : ∀ f j (A1 : Nat → Nat → Int32), j + f = 102 → (j = 0 ∨ 10 ^ j ≤ v) → digV (A1 q) 12 → valR (A1 q) 12 = v / 10 ^ j → (∀ i, i < j → A1 60 i = nI (v / 10 ^ i % 10)) → (∀ p, p ≠ 60 → p ≠ q → A1 p = A p) → WA X (mS I A1 J) plM 0 0 2 [(0, .ref 0), (1, .ref q), (2, .int (nI j))] [] := by
    intro f
    induction f with
    | zero =>
      intro j A1 hj h1
      exfalso
      obtain rfl : j = 102 := by omega
      rcases h1 with z | z <;> omega
    | succ f ih =>
      intro j A1 hj h1 hd1 hv1 h60 hfr
      have cj : (nI j).toNatClampNeg = j := nI_clamp (by omega)
      have e60 : up1 A1 q (putR (A1 q) 12 (v / 10 ^ (j + 1))) 60 = A1 60 := up1_p (fun z => hq60 z.symm)
      have ev : valR (A1 q) (nM q) / (10 : Int32).toNatClampNeg = v / 10 ^ (j + 1) := by rw [h10, hn, hv1, Nat.div_div_eq_div_mul, ← Nat.pow_succ]
      have er : valR (A1 q) (nM q) % (10 : Int32).toNatClampNeg = v / 10 ^ j % 10 := by rw [h10, hn, hv1]
      have eq : up1 (up1 A1 q (putR (A1 q) 12 (v / 10 ^ (j + 1)))) 60 (upd (A1 60) j (nI (v / 10 ^ j % 10))) q = putR (A1 q) 12 (v / 10 ^ (j + 1)) := by rw [up1_p hq60, up1_s]
      have elt : v / 10 ^ (j + 1) < 2 ^ (28 * 12) := Nat.lt_of_le_of_lt (Nat.div_le_self _ _) (by rw [← hv]; exact val_lt _ hd)
      have e60' : up1 (up1 A1 q (putR (A1 q) 12 (v / 10 ^ (j + 1)))) 60 (upd (A1 60) j (nI (v / 10 ^ j % 10))) 60 = upd (A1 60) j (nI (v / 10 ^ j % 10)) := up1_s
      have eo : ∀ p, p ≠ 60 → p ≠ q → up1 (up1 A1 q (putR (A1 q) 12 (v / 10 ^ (j + 1)))) 60 (upd (A1 60) j (nI (v / 10 ^ j % 10))) p = A p := fun p p1 p2 => by rw [up1_p p1, up1_p p2]; exact hfr p p1 p2
      have rows : ∀ i, i < j + 1 → upd (A1 60) j (nI (v / 10 ^ j % 10)) i = nI (v / 10 ^ i % 10) := fun i hi => by
        rcases Nat.lt_or_ge i j with z | z
        · rw [upd_out (by omega)]; exact h60 i z
        · obtain rfl : i = j := by omega
          rw [upd_in]
      refine r_12_printWhole_2 F hq hk (by rw [hn]; exact hd1) (by omega) (by decide) (vp_in_nI (by omega) (by omega)) ?_ (by omega) ?_ ?_
      all_goals rw [ev, er, cj, hn, e60]
      · rw [eq]; exact put_dig
      · intro c
        rw [eq, put_val 12 (Nat.le_refl _), Nat.mod_eq_of_lt elt] at c
        rw [nI_1]
        have hlt : v < 10 ^ (j + 1) := by
          rcases Nat.lt_or_ge v (10 ^ (j + 1)) with z | z
          · exact z
          · have := Nat.div_pos z (Nat.pow_pos (by decide)); omega
        exact prt (j + 1) _ ⟨by omega, hlt, by rcases h1 with z | z; left; omega; right; exact z⟩ (by omega) (fun i hi => by rw [e60']; exact rows i hi) eo
      · intro c
        rw [eq, put_val 12 (Nat.le_refl _), Nat.mod_eq_of_lt elt] at c
        rw [nI_1]
        have hge : 10 ^ (j + 1) ≤ v := by
          rcases Nat.lt_or_ge v (10 ^ (j + 1)) with z | z
          · exact absurd (Nat.div_eq_of_lt z) c
          · exact z
        exact ih (j + 1) _ (by omega) (Or.inr hge) (by rw [eq]; exact put_dig) (by rw [eq, put_val 12 (Nat.le_refl _), Nat.mod_eq_of_lt elt]) (fun i hi => by rw [e60']; exact rows i hi) eo
  refine r_12_printWhole_0 F hq hk ?_
  exact loop 102 0 A rfl (Or.inl rfl) hd (by rw [hv, Nat.pow_zero, Nat.div_one]) (fun i hi => by omega) (fun _ _ _ => rfl)
