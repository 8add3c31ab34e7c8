def chN : Nat → Nat → Nat
  | 0, _ => 1
  | k + 1, r => sumB (chN k) 0 (r + 1)
theorem ch_b : ∀ k, k < 7 → ∀ r, r < 16 → chN k r ≤ 54264 := by decide +kernel
theorem ch_6 : chN 6 15 = 54264 := by decide +kernel
def nmF (s : Nat) : Nat → Nat → Nat
  | 0, _ => 0
  | p + 1, left => sumB (fun v => chN p (left - v)) 0 (dgt s (p + 1)) + nmF s p (left - dgt s (p + 1))
/-- the reference's number of a stand -/
def num (s : Nat) : Nat := nmF s 6 15
theorem su_mono {f : Nat → Nat} {o m n : Nat} (h : m ≤ n) : sumB f o m ≤ sumB f o n := by
  induction n with
  | zero => rw [show m = 0 by omega]; exact Nat.le_refl _
  | succ n ih =>
    rcases Nat.lt_or_ge m (n + 1) with c | c
    · simp only [sumB]; have := ih (by omega); omega
    · rw [show m = n + 1 by omega]; exact Nat.le_refl _
theorem su_sh {f : Nat → Nat} : ∀ n o, sumB f (o + 1) n + f o = sumB f o (n + 1)
  | 0, o => by simp [sumB]
  | n + 1, o => by
    have := su_sh (f := f) n o
    simp only [sumB] at this ⊢
    rw [show o + 1 + n = o + (n + 1) by omega]; omega
theorem su_rev (f : Nat → Nat) : ∀ n, sumB (fun v => f (n - v)) 0 (n + 1) = sumB f 0 (n + 1)
  | 0 => rfl
  | n + 1 => by
    have ih := su_rev f n
    have e : sumB (fun v => f (n + 1 - v)) 0 (n + 1 + 1) = sumB (fun v => f (n + 1 - v)) 1 (n + 1) + f (n + 1) := (su_sh (f := fun v => f (n + 1 - v)) (n + 1) 0).symm
    have e2 : ∀ m, m ≤ n + 1 → sumB (fun v => f (n + 1 - v)) 1 m = sumB (fun v => f (n - v)) 0 m := fun m hm => by
      induction m with
      | zero => rfl
      | succ m ihm => simp only [sumB, Nat.zero_add]; rw [ihm (by omega), show n + 1 - (1 + m) = n - m by omega]
    rw [e, e2 (n + 1) (Nat.le_refl _), ih]
    show _ = sumB f 0 (n + 1) + f (0 + (n + 1)); rw [Nat.zero_add]
theorem men_sp (s p : Nat) : sumB (dgt s) 1 (p + 1) = sumB (dgt s) 1 p + dgt s (p + 1) := by simp only [sumB]; rw [Nat.add_comm 1 p]
theorem nm_lt {s : Nat} : ∀ p left, sumB (dgt s) 1 p ≤ left → nmF s p left < chN p left
  | 0, left, _ => by simp [nmF, chN]
  | p + 1, left, h => by
    rw [men_sp] at h
    have ih := nm_lt (s := s) p (left - dgt s (p + 1)) (by omega)
    simp only [nmF, chN]
    rw [← su_rev (chN p) left]
    have : sumB (fun v => chN p (left - v)) 0 (dgt s (p + 1) + 1) ≤ sumB (fun v => chN p (left - v)) 0 (left + 1) := su_mono (by omega)
    simp only [sumB, Nat.zero_add] at this ⊢; omega
theorem nm_inj {s t : Nat} : ∀ p left, sumB (dgt s) 1 p ≤ left → sumB (dgt t) 1 p ≤ left → nmF s p left = nmF t p left → ∀ k, k < p → dgt s (1 + k) = dgt t (1 + k)
  | 0, left, _, _, _ => fun k hk => by omega
  | p + 1, left, hs, ht, e => by
    rw [men_sp] at hs ht
    have ls := nm_lt (s := s) p (left - dgt s (p + 1)) (by omega)
    have lt := nm_lt (s := t) p (left - dgt t (p + 1)) (by omega)
    simp only [nmF] at e
    have key : ∀ x y, x < y → sumB (fun v => chN p (left - v)) 0 x + chN p (left - x) ≤ sumB (fun v => chN p (left - v)) 0 y := fun x y h => by
      have := su_mono (f := fun v => chN p (left - v)) (o := 0) (show x + 1 ≤ y by omega)
      simp only [sumB, Nat.zero_add] at this; exact this
    have ed : dgt s (p + 1) = dgt t (p + 1) := by
      rcases Nat.lt_trichotomy (dgt s (p + 1)) (dgt t (p + 1)) with c | c | c
      · have := key _ _ c; omega
      · exact c
      · have := key _ _ c; omega
    rw [ed] at e
    intro k hk
    rcases Nat.lt_or_ge k p with c | c
    · exact nm_inj p (left - dgt t (p + 1)) (by omega) (by omega) (by omega) k c
    · obtain rfl : k = p := by omega
      rw [Nat.add_comm 1 k]; exact ed
theorem num_lt {s : Nat} (h : stnd s) : num s < 54264 := by have := nm_lt (s := s) 6 15 h.2; rw [ch_6] at this; exact this
theorem num_inj {s t : Nat} (hs : stnd s) (ht : stnd t) (e : num s = num t) : s = t := by
  have d := nm_inj 6 15 hs.2 ht.2 e
  rw [← kd_st hs.1, ← kd_st ht.1]
  exact kd_cg 6 (fun k hk => by rw [Nat.zero_add, ← dgt_f, ← dgt_f]; exact d k hk)
theorem num_0 : num 0 = 0 := by decide +kernel
def chT (R : Nat → Int32) : Prop := ∀ k, k < 7 → ∀ s, s < 16 → R (17 * k + s) = nI (chN k s)
def rdyS (I A : Nat → Nat → Int32) : Prop := I 0 56 = 1 ∧ chT (A 52) ∧ digV (A 53) 8 ∧ valR (A 53) 8 = 36 ^ 36 ∧ A 51 0 = 0
def rdQ (I A : Nat → Nat → Int32) (J : Nat → Nat → Int64) : Option Value → HS → List Nat → Prop := fun r σ' pl' => ∃ I' A', r = none ∧ σ' = mS I' A' J ∧ pl' = plM ∧ rdyS I' A' ∧ (∀ k, k ≠ 56 → I' 0 k = I 0 k) ∧ (∀ q, q ≠ 51 → q ≠ 52 → q ≠ 53 → A' q = A q) ∧ (∀ k, k ≠ 0 → A' 51 k = A 51 k)

theorem r_12_numberOf_0 {X : Ctx} (F : Fx X cX12_numberOf RX12 7 2 0 0) {I A : Nat → Nat → Int32} {J : Nat → Nat → Int64} {x1 : Int32}
    (e_1 : WA X (mS I A J) plM 0 0 9 [(0, .ref 0), (1, .int x1), (2, .int 0), (3, .int 15), (4, .int 6)] []) :
    WA X (mS I A J) plM 0 0 0 [(0, .ref 0), (1, .int x1)] [] := by
  refine a_iconst (v := 0) F dX12_numberOf_0 (by decide) ?_
  refine a_istore_n F dX12_numberOf_1 rfl (by decide) rfl ?_
  refine a_bipush (v := 15) F dX12_numberOf_2 (by decide) ?_
  refine a_istore_n F dX12_numberOf_4 rfl (by decide) rfl ?_
  refine a_bipush (v := 6) F dX12_numberOf_5 (by decide) ?_
  refine a_istore F dX12_numberOf_7 (by decide) rfl ?_
  refine a_sub [3, 4, 2, 1, 0] rfl ?_
  exact e_1

theorem r_12_numberOf_9 {X : Ctx} (F : Fx X cX12_numberOf RX12 7 2 0 0) {Φ : Option Value → HS → List Nat → Prop} (E : Ex X (some .int) 0 0 Φ) {I A : Nat → Nat → Int32} {J : Nat → Nat → Int64} {x1 x2 x3 x4 : Int32}
    (e_1 : (x4 ≤ 0) → Φ (some (.int x2)) (mS I A J) plM)
    (o_2 : (¬ (x4 ≤ 0)) → 0 ≤ x1 ∧ 1 ≤ x4 ∧ x4 ≤ 6)
    (e_3 : (¬ (x4 ≤ 0)) → WA X (mS I A J) plM 0 0 25 [(0, .ref 0), (1, .int x1), (2, .int x2), (3, .int x3), (4, .int x4), (5, .int (onI x1 x4)), (6, .int 0)] []) :
    WA X (mS I A J) plM 0 0 9 [(0, .ref 0), (1, .int x1), (2, .int x2), (3, .int x3), (4, .int x4)] [] := by
  refine a_iload F 4 dX12_numberOf_9 rfl ?_
  refine a_if_le (tgt := 69) F dX12_numberOf_11 (by decide) (fun (c_1 : x4 ≤ 0) => ?_) (fun (c_1 : ¬ (x4 ≤ 0)) => ?_)
  · refine a_iload_n F 2 dX12_numberOf_69 rfl rfl ?_
    exact a_iret F E dX12_numberOf_70 (Nat.le_refl 0) (Nat.le_refl 0) (e_1 c_1)
  · refine a_iload_n F 1 dX12_numberOf_14 rfl rfl ?_
    refine a_iload F 4 dX12_numberOf_15 rfl ?_
    refine a_callS (As := [.int x1, .int x4]) (st := []) F (c_on (xl X) I A J x1 x4 (o_2 c_1)) ml_12_344 sm_yX12_on (by decide) rfl dX12_numberOf_17 (by decide) (Nat.le_refl 0) (Nat.le_refl 0) (hl_r (by decide) (hl_i (hl_i (hl_i (hl_i hl_nil))))) hs_nil ?_
    rintro _ _ _ ⟨rfl, rfl, rfl⟩ _
    show WA X (mS I A J) plM 0 0 20 [(0, .ref 0), (1, .int x1), (2, .int x2), (3, .int x3), (4, .int x4)] [.int (onI x1 x4)]
    refine a_istore F dX12_numberOf_20 (by decide) rfl ?_
    refine a_iconst (v := 0) F dX12_numberOf_22 (by decide) ?_
    refine a_istore F dX12_numberOf_23 (by decide) rfl ?_
    refine a_sub [2, 3, 4, 5, 6, 1, 0] rfl ?_
    exact e_3 c_1

theorem r_12_numberOf_25 {X : Ctx} (F : Fx X cX12_numberOf RX12 7 2 0 0) {I A : Nat → Nat → Int32} {J : Nat → Nat → Int64} {x1 x2 x3 x4 x5 x6 : Int32}
    (e_1 : (x5 ≤ x6) → WA X (mS I A J) plM 0 0 9 [(0, .ref 0), (1, .int x1), (2, .int x2), (3, .int (x3 - x5)), (4, .int (x4 + (-1)))] [])
    (o_2 : (¬ (x5 ≤ x6)) → vp_in (((17 * (x4 - 1)) + x3) - x6) 119)
    (e_3 : (¬ (x5 ≤ x6)) → WA X (mS I A J) plM 0 0 25 [(0, .ref 0), (1, .int x1), (2, .int (x2 + (A 52 (((17 * (x4 - 1)) + x3) - x6).toNatClampNeg))), (3, .int x3), (4, .int x4), (5, .int x5), (6, .int (x6 + 1))] []) :
    WA X (mS I A J) plM 0 0 25 [(0, .ref 0), (1, .int x1), (2, .int x2), (3, .int x3), (4, .int x4), (5, .int x5), (6, .int x6)] [] := by
  refine a_iload F 6 dX12_numberOf_25 rfl ?_
  refine a_iload F 5 dX12_numberOf_27 rfl ?_
  refine a_icmp_ge (tgt := 58) F dX12_numberOf_29 (by decide) (fun (c_2 : x5 ≤ x6) => ?_) (fun (c_2 : ¬ (x5 ≤ x6)) => ?_)
  · refine a_iload_n F 3 dX12_numberOf_58 rfl rfl ?_
    refine a_iload F 5 dX12_numberOf_59 rfl ?_
    refine a_isub F dX12_numberOf_61 ?_
    refine a_istore_n F dX12_numberOf_62 rfl (by decide) rfl ?_
    refine a_iinc (v := x4 + (-1)) F 4 dX12_numberOf_63 rfl rfl (by decide) rfl ?_
    refine a_goto (tgt := 9) F dX12_numberOf_66 (by decide) ?_
    refine a_sub [2, 3, 4, 1, 0] rfl ?_
    exact e_1 c_2
  · refine a_iload_n F 2 dX12_numberOf_32 rfl rfl ?_
    refine a_aload_n F 0 dX12_numberOf_33 rfl rfl ?_
    refine a_getr (b := 52) F fl_12_91 rfl (by decide) rfl rfl dX12_numberOf_34 ?_
    refine a_bipush (v := 17) F dX12_numberOf_37 (by decide) ?_
    refine a_iload F 4 dX12_numberOf_39 rfl ?_
    refine a_iconst (v := 1) F dX12_numberOf_41 (by decide) ?_
    refine a_isub F dX12_numberOf_42 ?_
    refine a_imul F dX12_numberOf_43 ?_
    refine a_iload_n F 3 dX12_numberOf_44 rfl rfl ?_
    refine a_iadd F dX12_numberOf_45 ?_
    refine a_iload F 6 dX12_numberOf_46 rfl ?_
    refine a_isub F dX12_numberOf_48 ?_
    refine a_iald F (by decide) rfl (o_2 c_2) dX12_numberOf_49 ?_
    refine a_iadd F dX12_numberOf_50 ?_
    refine a_istore_n F dX12_numberOf_51 rfl (by decide) rfl ?_
    refine a_iinc (v := x6 + 1) F 6 dX12_numberOf_52 rfl rfl (by decide) rfl ?_
    refine a_goto (tgt := 25) F dX12_numberOf_55 (by decide) ?_
    refine a_sub [2, 3, 1, 4, 5, 6, 0] rfl ?_
    exact e_3 c_2

set_option maxRecDepth 10000 in
theorem c_numberOf (l : Launch) (I A : Nat → Nat → Int32) (J : Nat → Nat → Int64) (s : Nat) (hs : stnd s) (ht : chT (A 52)) : Con l 2 yX12_numberOf cX12_numberOf 7 (some .int) [.ref 0, .int (nI s)] (mS I A J) plM 0 0 (PM (some (.int (nI (num s)))) I A J) := by
  refine Con.of (by decide) (Nat.le_of_ble_eq_true rfl) (fun X hX9 hn9 F E => ?_)
  have h6 := hs.1
  have outer : ∀ p left acc, p ≤ 6 → left ≤ 15 → sumB (dgt s) 1 p ≤ left → acc + nmF s p left = num s → WA X (mS I A J) plM 0 0 9 [(0, .ref 0), (1, .int (nI s)), (2, .int (nI acc)), (3, .int (nI left)), (4, .int (nI p))] [] := by
    intro p
    induction p with
    | zero =>
      intro left acc _ _ _ e
      have h0 : nI 0 ≤ 0 := by decide
      refine r_12_numberOf_9 F E (fun _ => ?_) (fun h => absurd h0 h) (fun h => absurd h0 h)
      rw [← e]; exact ⟨rfl, rfl, rfl⟩
    | succ p ih =>
      intro left acc hp hl hm e
      rw [men_sp] at hm
      have h0 : ¬ nI (p + 1) ≤ 0 := nI_nle (by omega) (by omega)
      refine r_12_numberOf_9 F E (fun h => absurd h h0) (fun _ => ⟨nI_pos' (by omega), (nI_gen 1 (by omega) (by omega)).mpr (by omega), (nI_len 6 (by omega) (by omega)).mpr (by omega)⟩) (fun _ => ?_)
      unfold onI; rw [nI_clamp (by omega), nI_clamp (by omega)]
      have inner : ∀ f v acc', v + f = dgt s (p + 1) → acc' = acc + sumB (fun v => chN p (left - v)) 0 v → WA X (mS I A J) plM 0 0 25 [(0, .ref 0), (1, .int (nI s)), (2, .int (nI acc')), (3, .int (nI left)), (4, .int (nI (p + 1))), (5, .int (nI (dgt s (p + 1)))), (6, .int (nI v))] [] := by
        intro f
        induction f with
        | zero =>
          intro v acc' hv ha
          obtain rfl : v = dgt s (p + 1) := by omega
          have h := (nI_leI (a := dgt s (p + 1)) (b := dgt s (p + 1)) (by omega) (by omega)).mpr (Nat.le_refl _)
          refine r_12_numberOf_25 F (fun _ => ?_) (fun z => absurd h z) (fun z => absurd h z)
          rw [pk_sub (by omega), nI_m1]
          refine ih _ _ (by omega) (by omega) (by omega) ?_
          simp only [nmF] at e; omega
        | succ f ih2 =>
          intro v acc' hv ha
          have h : ¬ nI (dgt s (p + 1)) ≤ nI v := fun z => by have := (nI_leI (a := dgt s (p + 1)) (b := v) (by omega) (by omega)).mp z; omega
          have ei : 17 * (nI (p + 1) - 1) + nI left - nI v = nI (17 * p + (left - v)) := by rw [nI_pred, lit 17, pk_mul, nI_add, pk_sub (by omega)]; congr 1; omega
          refine r_12_numberOf_25 F (fun z => absurd z h) (fun _ => by rw [ei]; exact vp_in_nI (by omega) (by omega)) (fun _ => ?_)
          rw [ei, nI_clamp (by omega), ht p (by omega) (left - v) (by omega), nI_add, nI_1]
          exact ih2 (v + 1) _ (by omega) (by simp only [sumB, Nat.zero_add]; omega)
      exact inner (dgt s (p + 1)) 0 acc (by omega) rfl
  refine r_12_numberOf_0 F ?_
  exact outer 6 15 0 (by omega) (by omega) hs.2 (by unfold num; omega)

theorem r_12_ready_0 {X : Ctx} (F : Fx X cX12_ready RX12 4 2 0 0) {Φ : Option Value → HS → List Nat → Prop} (E : Ex X none 0 0 Φ) {I A : Nat → Nat → Int32} {J : Nat → Nat → Int64}
    (e_1 : ((I 0 56) = 0) → WA X (mS (up2 I 0 56 1) A J) plM 0 0 15 [(0, .ref 0), (1, .int 0)] [])
    (e_2 : (¬ ((I 0 56) = 0)) → Φ none (mS I A J) plM) :
    WA X (mS I A J) plM 0 0 0 [(0, .ref 0)] [] := by
  refine a_aload_n F 0 dX12_ready_0 rfl rfl ?_
  refine a_geti F fl_12_350 rfl (by decide) rfl dX12_ready_1 ?_
  refine a_if_eq (tgt := 8) F dX12_ready_4 (by decide) (fun (c_1 : (I 0 56) = 0) => ?_) (fun (c_1 : ¬ ((I 0 56) = 0)) => ?_)
  · refine a_aload_n F 0 dX12_ready_8 rfl rfl ?_
    refine a_iconst (v := 1) F dX12_ready_9 (by decide) ?_
    refine a_puti F fl_12_350 rfl rfl (by decide +kernel) (by decide +kernel) (by decide) rfl dX12_ready_10 ?_
    refine a_iconst (v := 0) F dX12_ready_13 (by decide) ?_
    refine a_istore_n F dX12_ready_14 rfl (by decide) rfl ?_
    refine a_sub [1, 0] rfl ?_
    exact e_1 c_1
  · exact a_vret F E dX12_ready_7 (Nat.le_refl 0) (Nat.le_refl 0) (e_2 c_1)

theorem r_12_ready_15 {X : Ctx} (F : Fx X cX12_ready RX12 4 2 0 0) {I A : Nat → Nat → Int32} {J : Nat → Nat → Int64} {x1 : Int32}
    (e_1 : (17 ≤ x1) → WA X (mS I A J) plM 0 0 36 [(0, .ref 0), (1, .int 1)] [])
    (o_2 : (¬ (17 ≤ x1)) → vp_in x1 119)
    (e_3 : (¬ (17 ≤ x1)) → WA X (mS I (up1 A 52 (upd (A 52) x1.toNatClampNeg 1)) J) plM 0 0 15 [(0, .ref 0), (1, .int (x1 + 1))] []) :
    WA X (mS I A J) plM 0 0 15 [(0, .ref 0), (1, .int x1)] [] := by
  refine a_iload_n F 1 dX12_ready_15 rfl rfl ?_
  refine a_bipush (v := 17) F dX12_ready_16 (by decide) ?_
  refine a_icmp_ge (tgt := 34) F dX12_ready_18 (by decide) (fun (c_2 : 17 ≤ x1) => ?_) (fun (c_2 : ¬ (17 ≤ x1)) => ?_)
  · refine a_iconst (v := 1) F dX12_ready_34 (by decide) ?_
    refine a_istore_n F dX12_ready_35 rfl (by decide) rfl ?_
    refine a_sub [1, 0] rfl ?_
    exact e_1 c_2
  · refine a_aload_n F 0 dX12_ready_21 rfl rfl ?_
    refine a_getr (b := 52) F fl_12_91 rfl (by decide) rfl rfl dX12_ready_22 ?_
    refine a_iload_n F 1 dX12_ready_25 rfl rfl ?_
    refine a_iconst (v := 1) F dX12_ready_26 (by decide) ?_
    refine a_iast F (by decide) rfl (o_2 c_2) dX12_ready_27 ?_
    refine a_iinc (v := x1 + 1) F 1 dX12_ready_28 rfl rfl (by decide) rfl ?_
    refine a_goto (tgt := 15) F dX12_ready_31 (by decide) ?_
    refine a_sub [1, 0] rfl ?_
    exact e_3 c_2

theorem r_12_ready_36 {X : Ctx} (F : Fx X cX12_ready RX12 4 2 0 0) {I A : Nat → Nat → Int32} {J : Nat → Nat → Int64} {x1 : Int32}
    (e_1 : (7 ≤ x1) → WA X (mS I A J) plM 0 0 94 [(0, .ref 0), (1, .int 0)] [])
    (e_2 : (¬ (7 ≤ x1)) → WA X (mS I A J) plM 0 0 46 [(0, .ref 0), (1, .int x1), (2, .int 0), (3, .int 0)] []) :
    WA X (mS I A J) plM 0 0 36 [(0, .ref 0), (1, .int x1)] [] := by
  refine a_iload_n F 1 dX12_ready_36 rfl rfl ?_
  refine a_bipush (v := 7) F dX12_ready_37 (by decide) ?_
  refine a_icmp_ge (tgt := 92) F dX12_ready_39 (by decide) (fun (c_3 : 7 ≤ x1) => ?_) (fun (c_3 : ¬ (7 ≤ x1)) => ?_)
  · refine a_iconst (v := 0) F dX12_ready_92 (by decide) ?_
    refine a_istore_n F dX12_ready_93 rfl (by decide) rfl ?_
    refine a_sub [1, 0] rfl ?_
    exact e_1 c_3
  · refine a_iconst (v := 0) F dX12_ready_42 (by decide) ?_
    refine a_istore_n F dX12_ready_43 rfl (by decide) rfl ?_
    refine a_iconst (v := 0) F dX12_ready_44 (by decide) ?_
    refine a_istore_n F dX12_ready_45 rfl (by decide) rfl ?_
    refine a_sub [2, 3, 1, 0] rfl ?_
    exact e_2 c_3

theorem r_12_ready_46 {X : Ctx} (F : Fx X cX12_ready RX12 4 2 0 0) {I A : Nat → Nat → Int32} {J : Nat → Nat → Int64} {x1 x2 x3 : Int32}
    (e_1 : (16 ≤ x3) → WA X (mS I A J) plM 0 0 36 [(0, .ref 0), (1, .int (x1 + 1))] [])
    (o_2 : (¬ (16 ≤ x3)) → vp_in ((17 * (x1 - 1)) + x3) 119)
    (o_3 : (¬ (16 ≤ x3)) → vp_in ((17 * x1) + x3) 119)
    (e_4 : (¬ (16 ≤ x3)) → WA X (mS I (up1 A 52 (upd (A 52) ((17 * x1) + x3).toNatClampNeg (x2 + (A 52 ((17 * (x1 - 1)) + x3).toNatClampNeg)))) J) plM 0 0 46 [(0, .ref 0), (1, .int x1), (2, .int (x2 + (A 52 ((17 * (x1 - 1)) + x3).toNatClampNeg))), (3, .int (x3 + 1))] []) :
    WA X (mS I A J) plM 0 0 46 [(0, .ref 0), (1, .int x1), (2, .int x2), (3, .int x3)] [] := by
  refine a_iload_n F 3 dX12_ready_46 rfl rfl ?_
  refine a_bipush (v := 16) F dX12_ready_47 (by decide) ?_
  refine a_icmp_ge (tgt := 86) F dX12_ready_49 (by decide) (fun (c_4 : 16 ≤ x3) => ?_) (fun (c_4 : ¬ (16 ≤ x3)) => ?_)
  · refine a_iinc (v := x1 + 1) F 1 dX12_ready_86 rfl rfl (by decide) rfl ?_
    refine a_goto (tgt := 36) F dX12_ready_89 (by decide) ?_
    refine a_sub [1, 0] rfl ?_
    exact e_1 c_4
  · refine a_iload_n F 2 dX12_ready_52 rfl rfl ?_
    refine a_aload_n F 0 dX12_ready_53 rfl rfl ?_
    refine a_getr (b := 52) F fl_12_91 rfl (by decide) rfl rfl dX12_ready_54 ?_
    refine a_bipush (v := 17) F dX12_ready_57 (by decide) ?_
    refine a_iload_n F 1 dX12_ready_59 rfl rfl ?_
    refine a_iconst (v := 1) F dX12_ready_60 (by decide) ?_
    refine a_isub F dX12_ready_61 ?_
    refine a_imul F dX12_ready_62 ?_
    refine a_iload_n F 3 dX12_ready_63 rfl rfl ?_
    refine a_iadd F dX12_ready_64 ?_
    refine a_iald F (by decide) rfl (o_2 c_4) dX12_ready_65 ?_
    refine a_iadd F dX12_ready_66 ?_
    refine a_istore_n F dX12_ready_67 rfl (by decide) rfl ?_
    refine a_aload_n F 1 dX12_ready_68 rfl rfl ?_
    refine a_getr (b := 52) F fl_12_91 rfl (by decide) rfl rfl dX12_ready_69 ?_
    refine a_bipush (v := 17) F dX12_ready_72 (by decide) ?_
    refine a_iload_n F 2 dX12_ready_74 rfl rfl ?_
    refine a_imul F dX12_ready_75 ?_
    refine a_iload_n F 3 dX12_ready_76 rfl rfl ?_
    refine a_iadd F dX12_ready_77 ?_
    refine a_iload_n F 0 dX12_ready_78 rfl rfl ?_
    refine a_iast F (by decide) rfl (o_3 c_4) dX12_ready_79 ?_
    refine a_iinc (v := x3 + 1) F 3 dX12_ready_80 rfl rfl (by decide) rfl ?_
    refine a_goto (tgt := 46) F dX12_ready_83 (by decide) ?_
    refine a_sub [2, 3, 1, 0] rfl ?_
    exact e_4 c_4

theorem r_12_ready_94 {X : Ctx} (F : Fx X cX12_ready RX12 4 2 0 0) {I A : Nat → Nat → Int32} {J : Nat → Nat → Int64} {x1 : Int32}
    (o_1 : (8 ≤ x1) → vp_in 0 8)
    (e_2 : (8 ≤ x1) → WA X (mS I (up1 A 53 (upd (A 53) 0 1)) J) plM 0 0 122 [(0, .ref 0), (1, .int 0)] [])
    (o_3 : (¬ (8 ≤ x1)) → vp_in x1 8)
    (e_4 : (¬ (8 ≤ x1)) → WA X (mS I (up1 A 53 (upd (A 53) x1.toNatClampNeg 0)) J) plM 0 0 94 [(0, .ref 0), (1, .int (x1 + 1))] []) :
    WA X (mS I A J) plM 0 0 94 [(0, .ref 0), (1, .int x1)] [] := by
  refine a_iload_n F 1 dX12_ready_94 rfl rfl ?_
  refine a_bipush (v := 8) F dX12_ready_95 (by decide) ?_
  refine a_icmp_ge (tgt := 113) F dX12_ready_97 (by decide) (fun (c_5 : 8 ≤ x1) => ?_) (fun (c_5 : ¬ (8 ≤ x1)) => ?_)
  · refine a_aload_n F 0 dX12_ready_113 rfl rfl ?_
    refine a_getr (b := 53) F fl_12_94 rfl (by decide) rfl rfl dX12_ready_114 ?_
    refine a_iconst (v := 0) F dX12_ready_117 (by decide) ?_
    refine a_iconst (v := 1) F dX12_ready_118 (by decide) ?_
    refine a_iast F (by decide) rfl (o_1 c_5) dX12_ready_119 ?_
    refine a_iconst (v := 0) F dX12_ready_120 (by decide) ?_
    refine a_istore_n F dX12_ready_121 rfl (by decide) rfl ?_
    refine a_sub [1, 0] rfl ?_
    exact e_2 c_5
  · refine a_aload_n F 0 dX12_ready_100 rfl rfl ?_
    refine a_getr (b := 53) F fl_12_94 rfl (by decide) rfl rfl dX12_ready_101 ?_
    refine a_iload_n F 1 dX12_ready_104 rfl rfl ?_
    refine a_iconst (v := 0) F dX12_ready_105 (by decide) ?_
    refine a_iast F (by decide) rfl (o_3 c_5) dX12_ready_106 ?_
    refine a_iinc (v := x1 + 1) F 1 dX12_ready_107 rfl rfl (by decide) rfl ?_
    refine a_goto (tgt := 94) F dX12_ready_110 (by decide) ?_
    refine a_sub [1, 0] rfl ?_
    exact e_4 c_5

theorem r_12_ready_122 {X : Ctx} (F : Fx X cX12_ready RX12 4 2 0 0) {Φ : Option Value → HS → List Nat → Prop} (E : Ex X none 0 0 Φ) {I A : Nat → Nat → Int32} {J : Nat → Nat → Int64} {x1 : Int32}
    (o_1 : (36 ≤ x1) → vp_in 0 54264)
    (e_2 : (36 ≤ x1) → Φ none (mS I (up1 A 51 (upd (A 51) 0 0)) J) plM)
    (o_3 : (¬ (36 ≤ x1)) → digV (A 53) 8)
    (o_4 : (¬ (36 ≤ x1)) → 1 ≤ (36 : Int32) ∧ (36 : Int32) ≤ 64)
    (e_5 : (¬ (36 ≤ x1)) → WA X (mS I (up1 A 53 (putR (A 53) 8 (valR (A 53) 8 * (36 : Int32).toNatClampNeg))) J) plM 0 0 122 [(0, .ref 0), (1, .int (x1 + 1))] []) :
    WA X (mS I A J) plM 0 0 122 [(0, .ref 0), (1, .int x1)] [] := by
  refine a_iload_n F 1 dX12_ready_122 rfl rfl ?_
  refine a_bipush (v := 36) F dX12_ready_123 (by decide) ?_
  refine a_icmp_ge (tgt := 143) F dX12_ready_125 (by decide) (fun (c_6 : 36 ≤ x1) => ?_) (fun (c_6 : ¬ (36 ≤ x1)) => ?_)
  · refine a_aload_n F 0 dX12_ready_143 rfl rfl ?_
    refine a_getr (b := 51) F fl_12_88 rfl (by decide) rfl rfl dX12_ready_144 ?_
    refine a_iconst (v := 0) F dX12_ready_147 (by decide) ?_
    refine a_iconst (v := 0) F dX12_ready_148 (by decide) ?_
    refine a_iast F (by decide) rfl (o_1 c_6) dX12_ready_149 ?_
    exact a_vret F E dX12_ready_150 (Nat.le_refl 0) (Nat.le_refl 0) (e_2 c_6)
  · refine a_aload_n F 0 dX12_ready_128 rfl rfl ?_
    refine a_getr (b := 53) F fl_12_94 rfl (by decide) rfl rfl dX12_ready_129 ?_
    refine a_bipush (v := 36) F dX12_ready_132 (by decide) ?_
    refine a_callS (As := [.ref 53, .int 36]) (st := []) F (c_timesI (xl X) I A J 53 (36 : Int32) (by decide) rfl (by decide) (o_3 c_6) (o_4 c_6)) ml_12_353 sm_yX12_times (by decide) rfl dX12_ready_134 (by decide) (Nat.le_refl 0) (Nat.le_refl 0) (hl_r (by decide) (hl_i hl_nil)) hs_nil ?_
    rintro _ _ _ ⟨rfl, rfl, rfl⟩ _
    show WA X (mS I (up1 A 53 (putR (A 53) 8 (valR (A 53) 8 * (36 : Int32).toNatClampNeg))) J) plM 0 0 137 [(0, .ref 0), (1, .int x1)] []
    refine a_iinc (v := x1 + 1) F 1 dX12_ready_137 rfl rfl (by decide) rfl ?_
    refine a_goto (tgt := 122) F dX12_ready_140 (by decide) ?_
    refine a_sub [1, 0] rfl ?_
    exact e_5 c_6

set_option maxRecDepth 10000 in
theorem c_ready (l : Launch) (I A : Nat → Nat → Int32) (J : Nat → Nat → Int64) (h : I 0 56 = 0 ∨ rdyS I A) : Con l 2 yX12_ready cX12_ready 4 none [.ref 0] (mS I A J) plM 0 0 (rdQ I A J) := by
  refine Con.of (by decide) (Nat.le_of_ble_eq_true rfl) (fun X hX9 hn9 F E => ?_)
  refine r_12_ready_0 F E (fun c => ?_) (fun c => ?_)
  · have i56 : up2 I 0 56 1 0 56 = 1 := up2_s
    have io : ∀ k, k ≠ 56 → up2 I 0 56 1 0 k = I 0 k := fun k hk => up2_k hk
    generalize up2 I 0 56 1 = I1 at i56 io ⊢
    have l36 : ∀ k, k ≤ 36 → 36 ^ k < 2 ^ (28 * 8) := fun k hk => Nat.lt_of_le_of_lt (Nat.pow_le_pow_right (by decide) hk) (by decide +kernel)
    have pw : ∀ f k (A1 : Nat → Nat → Int32), k + f = 36 → chT (A1 52) → digV (A1 53) 8 → valR (A1 53) 8 = 36 ^ k → (∀ q, q ≠ 52 → q ≠ 53 → A1 q = A q) → WA X (mS I1 A1 J) plM 0 0 122 [(0, .ref 0), (1, .int (nI k))] [] := by
      intro f
      induction f with
      | zero =>
        intro k A1 hk ct d53 v53 fr
        obtain rfl : k = 36 := by omega
        have h36 : (36 : Int32) ≤ nI 36 := by decide
        refine r_12_ready_122 F E (fun _ => vp_in_nI (n := 0) (by omega) (by omega)) (fun _ => ?_) (fun z => absurd h36 z) (fun z => absurd h36 z) (fun z => absurd h36 z)
        refine ⟨I1, _, rfl, rfl, rfl, ⟨i56, by rw [up1_p (by decide)]; exact ct, by rw [up1_p (by decide)]; exact d53, by rw [up1_p (by decide)]; exact v53, by rw [up1_s, upd_in]⟩, io, fun q q1 q2 q3 => by rw [up1_p q1]; exact fr q q2 q3, fun k hk => ?_⟩
        rw [up1_s, upd_out hk, fr 51 (by decide) (by decide)]
      | succ f ih =>
        intro k A1 hk ct d53 v53 fr
        have h36 : ¬ (36 : Int32) ≤ nI k := nI_ge (b := 36) (by omega) (by omega)
        refine r_12_ready_122 F E (fun z => absurd z h36) (fun z => absurd z h36) (fun _ => d53) (fun _ => by decide) (fun _ => ?_)
        rw [v53, show (36 : Int32).toNatClampNeg = 36 from rfl, ← Nat.pow_succ, nI_1]
        refine ih (k + 1) _ (by omega) (by rw [up1_p (by decide)]; exact ct) (by rw [up1_s]; exact put_dig) ?_ (fun q q1 q2 => by rw [up1_p q2]; exact fr q q1 q2)
        rw [up1_s, put_val 8 (Nat.le_refl _)]; exact Nat.mod_eq_of_lt (l36 _ (by omega))
    have one : ∀ f k (A1 : Nat → Nat → Int32), k + f = 8 → chT (A1 52) → (∀ q, q ≠ 52 → A1 q = A q) → WA X (mS I1 (up1 A1 53 (fillF (A1 53) k (fun _ => 0))) J) plM 0 0 94 [(0, .ref 0), (1, .int (nI k))] [] := by
      intro f
      induction f with
      | zero =>
        intro k A1 hk ct fr
        obtain rfl : k = 8 := by omega
        have h8 : (8 : Int32) ≤ nI 8 := by decide
        refine r_12_ready_94 F (fun _ => vp_in_nI (n := 0) (by omega) (by omega)) (fun _ => ?_) (fun z => absurd h8 z) (fun z => absurd h8 z)
        rw [up1_s, up1_up1]
        have d53 : digV (upd (fillF (A1 53) 8 (fun _ => 0)) 0 1) 8 := fun k hk => by
          by_cases z : k = 0
          · subst z; exact ⟨1, by decide, by rw [upd_in]; rfl⟩
          · exact ⟨0, by decide, by rw [upd_out z, fill_in hk]; rfl⟩
        refine pw 36 0 _ rfl (by rw [up1_p (by decide)]; exact ct) (by rw [up1_s]; exact d53) ?_ (fun q q1 q2 => by rw [up1_p q2]; exact fr q q1)
        rw [up1_s, Nat.pow_zero]
        simp only [valR, upd_in]
        rw [upd_out (by decide), upd_out (by decide), upd_out (by decide), upd_out (by decide), upd_out (by decide), upd_out (by decide), upd_out (by decide), fill_in (by decide), fill_in (by decide), fill_in (by decide), fill_in (by decide), fill_in (by decide), fill_in (by decide), fill_in (by decide)]
        decide +kernel
      | succ f ih =>
        intro k A1 hk ct fr
        have h8 : ¬ (8 : Int32) ≤ nI k := nI_ge (b := 8) (by omega) (by omega)
        refine r_12_ready_94 F (fun z => absurd z h8) (fun z => absurd z h8) (fun _ => vp_in_nI (by omega) (by omega)) (fun _ => ?_)
        rw [nI_clamp (by omega), nI_1, up1_s, up1_up1, fill_s (g := fun _ => 0)]
        exact ih (k + 1) A1 (by omega) ct fr
    have tab : ∀ f k (A1 : Nat → Nat → Int32), k + f = 7 → 1 ≤ k → (∀ k', k' < k → ∀ s, s < 16 → A1 52 (17 * k' + s) = nI (chN k' s)) → (∀ q, q ≠ 52 → A1 q = A q) → WA X (mS I1 A1 J) plM 0 0 36 [(0, .ref 0), (1, .int (nI k))] [] := by
      intro f
      induction f with
      | zero =>
        intro k A1 hk h1 ct fr
        obtain rfl : k = 7 := by omega
        have h7 : (7 : Int32) ≤ nI 7 := by decide
        refine r_12_ready_36 F (fun _ => ?_) (fun z => absurd h7 z)
        have := one 8 0 A1 rfl ct fr
        rw [fill_0, up1_id] at this
        exact this
      | succ f ih =>
        intro k A1 hk h1 ct fr
        have h7 : ¬ (7 : Int32) ≤ nI k := nI_ge (b := 7) (by omega) (by omega)
        refine r_12_ready_36 F (fun z => absurd z h7) (fun _ => ?_)
        have inner : ∀ f2 s (A2 : Nat → Nat → Int32), s + f2 = 16 → (∀ k', k' < k → ∀ s, s < 16 → A2 52 (17 * k' + s) = nI (chN k' s)) → (∀ s', s' < s → A2 52 (17 * k + s') = nI (chN k s')) → (∀ q, q ≠ 52 → A2 q = A q) → WA X (mS I1 A2 J) plM 0 0 46 [(0, .ref 0), (1, .int (nI k)), (2, .int (nI (sumB (chN (k - 1)) 0 s))), (3, .int (nI s))] [] := by
          intro f2
          induction f2 with
          | zero =>
            intro s A2 hs c1 c2 fr2
            obtain rfl : s = 16 := by omega
            have h16 : (16 : Int32) ≤ nI 16 := by decide
            refine r_12_ready_46 F (fun _ => ?_) (fun z => absurd h16 z) (fun z => absurd h16 z) (fun z => absurd h16 z)
            rw [nI_1]
            refine ih (k + 1) A2 (by omega) (by omega) (fun k' hk' s hs => ?_) fr2
            rcases Nat.lt_or_ge k' k with z | z
            · exact c1 k' z s hs
            · obtain rfl : k' = k := by omega
              exact c2 s hs
          | succ f2 ih2 =>
            intro s A2 hs c1 c2 fr2
            have h16 : ¬ (16 : Int32) ≤ nI s := nI_ge (b := 16) (by omega) (by omega)
            have e1 : 17 * (nI k - 1) + nI s = nI (17 * (k - 1) + s) := by rw [show nI k - 1 = nI (k - 1) from pk_sub (b := 1) h1, lit 17, pk_mul, nI_add]
            have e2 : 17 * nI k + nI s = nI (17 * k + s) := by rw [lit 17, pk_mul, nI_add]
            refine r_12_ready_46 F (fun z => absurd z h16) (fun _ => by rw [e1]; exact vp_in_nI (by omega) (by omega)) (fun _ => by rw [e2]; exact vp_in_nI (by omega) (by omega)) (fun _ => ?_)
            have es : sumB (chN (k - 1)) 0 s + chN (k - 1) s = chN k s := by
              obtain ⟨j, rfl⟩ : ∃ j, k = j + 1 := ⟨k - 1, by omega⟩
              show _ = sumB (chN j) 0 (s + 1); simp only [sumB, Nat.zero_add]; rfl
            rw [e1, e2, nI_clamp (by omega), nI_clamp (by omega), c1 (k - 1) (by omega) s (by omega), nI_add, nI_1]
            have := ih2 (s + 1) (up1 A2 52 (upd (A2 52) (17 * k + s) (nI (sumB (chN (k - 1)) 0 s + chN (k - 1) s)))) (by omega) (fun k' hk' s' hs' => by rw [up1_s, upd_out (by omega)]; exact c1 k' hk' s' hs') (fun s' hs' => ?_) (fun q hq => by rw [up1_p hq]; exact fr2 q hq)
            · simp only [sumB, Nat.zero_add] at this; exact this
            · rw [up1_s]
              rcases Nat.lt_or_ge s' s with z | z
              · rw [upd_out (by omega)]; exact c2 s' z
              · obtain rfl : s' = s := by omega
                rw [upd_in, es]
        exact inner 16 0 A1 rfl ct (fun s' hs' => by omega) fr
    have fst : ∀ f s, s + f = 17 → WA X (mS I1 (up1 A 52 (fillF (A 52) s (fun _ => 1))) J) plM 0 0 15 [(0, .ref 0), (1, .int (nI s))] [] := by
      intro f
      induction f with
      | zero =>
        intro s hs
        obtain rfl : s = 17 := by omega
        have h17 : (17 : Int32) ≤ nI 17 := by decide
        refine r_12_ready_15 F (fun _ => ?_) (fun z => absurd h17 z) (fun z => absurd h17 z)
        refine tab 6 1 _ rfl (by omega) (fun k' hk' s hs => ?_) (fun q hq => up1_p hq)
        obtain rfl : k' = 0 := by omega
        rw [up1_s, fill_in (by omega)]; rfl
      | succ f ih =>
        intro s hs
        have h17 : ¬ (17 : Int32) ≤ nI s := nI_ge (b := 17) (by omega) (by omega)
        refine r_12_ready_15 F (fun z => absurd z h17) (fun _ => vp_in_nI (by omega) (by omega)) (fun _ => ?_)
        rw [nI_clamp (by omega), nI_1, up1_s, up1_up1, fill_s (g := fun _ => 1)]
        exact ih (s + 1) (by omega)
    have := fst 17 0 rfl
    rw [fill_0, up1_id] at this
    exact this
  · exact ⟨I, A, rfl, rfl, rfl, h.resolve_left c, fun _ _ => rfl, fun _ _ _ _ => rfl, fun _ _ => rfl⟩
