/-- i places from o on set by g -/
def segF {α : Type} (f : Nat → α) (o i : Nat) (g : Nat → α) : Nat → α := fun k => if o ≤ k ∧ k < o + i then g (k - o) else f k
theorem seg_0 {α : Type} (f : Nat → α) (o : Nat) (g : Nat → α) : segF f o 0 g = f := by funext k; simp only [segF]; rw [if_neg (by omega)]
theorem seg_s (f g : Nat → Int32) (o i : Nat) : upd (segF f o i g) (o + i) (g i) = segF f o (i + 1) g := by
  funext k; simp only [upd, segF]; by_cases h : k = o + i
  · subst h; rw [if_pos rfl, if_pos (by omega)]; congr 1; omega
  · rw [if_neg h]; by_cases h2 : o ≤ k ∧ k < o + i
    · rw [if_pos h2, if_pos (by omega)]
    · rw [if_neg h2, if_neg (by omega)]
theorem seg_in {α : Type} {f g : Nat → α} {o i k : Nat} (h : k < i) : segF f o i g (o + k) = g k := by simp only [segF]; rw [if_pos (by omega)]; congr 1; omega
theorem seg_out {α : Type} {f g : Nat → α} {o i k : Nat} (h : k < o ∨ o + i ≤ k) : segF f o i g k = f k := by simp only [segF]; rw [if_neg (by omega)]
theorem upd_out {f : Nat → Int32} {k j : Nat} {v : Int32} (h : j ≠ k) : upd f k v j = f j := by simp [upd, h]
theorem upd_in {f : Nat → Int32} {k : Nat} {v : Int32} : upd f k v k = v := by simp [upd]
/-- the rows of past positions, one more: of the eight the first goes -/
def remB (old : Nat → Int32) (p : Nat) : Nat → Int32 := if p = 8 then fillF old 371 (fun k => old (k + 53)) else old
def remP (p : Nat) : Nat := if p = 8 then 7 else p
def remRow (old : Nat → Int32) (p : Nat) (b : Nat → Int32) (t : Int32) : Nat → Int32 := upd (segF (remB old p) (53 * remP p) 52 b) (53 * remP p + 52) t

theorem r_12_remember_0 {X : Ctx} (F : Fx X cX12_remember RX12 2 1 0 0) {I A : Nat → Nat → Int32} {J : Nat → Nat → Int64}
    (e_1 : (¬ (I 0 19) = 8) → WA X (mS I A J) plM 0 0 49 [(0, .ref 0), (1, .int 0)] [])
    (e_2 : ((I 0 19) = 8) → WA X (mS I A J) plM 0 0 11 [(0, .ref 0), (1, .int 0)] []) :
    WA X (mS I A J) plM 0 0 0 [(0, .ref 0)] [] := by
  refine a_aload_n F 0 dX12_remember_0 rfl rfl ?_
  refine a_geti F fl_12_249 rfl (by decide) rfl dX12_remember_1 ?_
  refine a_bipush (v := 8) F dX12_remember_4 (by decide) ?_
  refine a_icmp_ne (tgt := 47) F dX12_remember_6 (by decide) (fun (c_1 : ¬ (I 0 19) = 8) => ?_) (fun (c_1 : (I 0 19) = 8) => ?_)
  · refine a_iconst (v := 0) F dX12_remember_47 (by decide) ?_
    refine a_istore_n F dX12_remember_48 rfl (by decide) rfl ?_
    refine a_sub [1, 0] rfl ?_
    exact e_1 c_1
  · refine a_iconst (v := 0) F dX12_remember_9 (by decide) ?_
    refine a_istore_n F dX12_remember_10 rfl (by decide) rfl ?_
    refine a_sub [1, 0] rfl ?_
    exact e_2 c_1

theorem r_12_remember_11 {X : Ctx} (F : Fx X cX12_remember RX12 2 1 0 0) {I A : Nat → Nat → Int32} {J : Nat → Nat → Int64} {x1 : Int32}
    (e_1 : (371 ≤ x1) → WA X (mS (up2 I 0 19 7) A J) plM 0 0 49 [(0, .ref 0), (1, .int 0)] [])
    (o_2 : (¬ (371 ≤ x1)) → vp_in ((x1 + 52) + 1) 424)
    (o_3 : (¬ (371 ≤ x1)) → vp_in x1 424)
    (e_4 : (¬ (371 ≤ x1)) → WA X (mS I (up1 A 18 (upd (A 18) x1.toNatClampNeg (A 18 ((x1 + 52) + 1).toNatClampNeg))) J) plM 0 0 11 [(0, .ref 0), (1, .int (x1 + 1))] []) :
    WA X (mS I A J) plM 0 0 11 [(0, .ref 0), (1, .int x1)] [] := by
  refine a_iload_n F 1 dX12_remember_11 rfl rfl ?_
  refine a_sipush (v := 371) F dX12_remember_12 (by decide) ?_
  refine a_icmp_ge (tgt := 41) F dX12_remember_15 (by decide) (fun (c_2 : 371 ≤ x1) => ?_) (fun (c_2 : ¬ (371 ≤ x1)) => ?_)
  · refine a_aload_n F 0 dX12_remember_41 rfl rfl ?_
    refine a_bipush (v := 7) F dX12_remember_42 (by decide) ?_
    refine a_puti F fl_12_249 rfl rfl rfl rfl (by decide) rfl dX12_remember_44 ?_
    refine a_iconst (v := 0) F dX12_remember_47 (by decide) ?_
    refine a_istore_n F dX12_remember_48 rfl (by decide) rfl ?_
    refine a_sub [1, 0] rfl ?_
    exact e_1 c_2
  · refine a_aload_n F 0 dX12_remember_18 rfl rfl ?_
    refine a_getr (b := 18) F fl_12_42 rfl (by decide) rfl rfl dX12_remember_19 ?_
    refine a_iload_n F 1 dX12_remember_22 rfl rfl ?_
    refine a_aload_n F 0 dX12_remember_23 rfl rfl ?_
    refine a_getr (b := 18) F fl_12_42 rfl (by decide) rfl rfl dX12_remember_24 ?_
    refine a_iload_n F 1 dX12_remember_27 rfl rfl ?_
    refine a_bipush (v := 52) F dX12_remember_28 (by decide) ?_
    refine a_iadd F dX12_remember_30 ?_
    refine a_iconst (v := 1) F dX12_remember_31 (by decide) ?_
    refine a_iadd F dX12_remember_32 ?_
    refine a_iald F (by decide) rfl (o_2 c_2) dX12_remember_33 ?_
    refine a_iast F (by decide) rfl (o_3 c_2) dX12_remember_34 ?_
    refine a_iinc (v := x1 + 1) F 1 dX12_remember_35 rfl rfl (by decide) rfl ?_
    refine a_goto (tgt := 11) F dX12_remember_38 (by decide) ?_
    refine a_sub [1, 0] rfl ?_
    exact e_4 c_2

theorem r_12_remember_49 {X : Ctx} (F : Fx X cX12_remember RX12 2 1 0 0) {Φ : Option Value → HS → List Nat → Prop} (E : Ex X none 0 0 Φ) {I A : Nat → Nat → Int32} {J : Nat → Nat → Int64} {x1 : Int32}
    (o_1 : (52 ≤ x1) → vp_in ((53 * (I 0 19)) + 52) 424)
    (e_2 : (52 ≤ x1) → Φ none (mS (up2 I 0 19 ((I 0 19) + 1)) (up1 A 18 (upd (A 18) ((53 * (I 0 19)) + 52).toNatClampNeg (I 0 2))) J) plM)
    (o_3 : (¬ (52 ≤ x1)) → vp_in x1 52)
    (o_4 : (¬ (52 ≤ x1)) → vp_in ((53 * (I 0 19)) + x1) 424)
    (e_5 : (¬ (52 ≤ x1)) → WA X (mS I (up1 A 18 (upd (A 18) ((53 * (I 0 19)) + x1).toNatClampNeg (A 1 x1.toNatClampNeg))) J) plM 0 0 49 [(0, .ref 0), (1, .int (x1 + 1))] []) :
    WA X (mS I A J) plM 0 0 49 [(0, .ref 0), (1, .int x1)] [] := by
  refine a_iload_n F 1 dX12_remember_49 rfl rfl ?_
  refine a_bipush (v := 52) F dX12_remember_50 (by decide) ?_
  refine a_icmp_ge (tgt := 81) F dX12_remember_52 (by decide) (fun (c_3 : 52 ≤ x1) => ?_) (fun (c_3 : ¬ (52 ≤ x1)) => ?_)
  · refine a_aload_n F 0 dX12_remember_81 rfl rfl ?_
    refine a_getr (b := 18) F fl_12_42 rfl (by decide) rfl rfl dX12_remember_82 ?_
    refine a_bipush (v := 53) F dX12_remember_85 (by decide) ?_
    refine a_aload_n F 0 dX12_remember_87 rfl rfl ?_
    refine a_geti F fl_12_249 rfl (by decide) rfl dX12_remember_88 ?_
    refine a_imul F dX12_remember_91 ?_
    refine a_bipush (v := 52) F dX12_remember_92 (by decide) ?_
    refine a_iadd F dX12_remember_94 ?_
    refine a_aload_n F 0 dX12_remember_95 rfl rfl ?_
    refine a_geti F fl_12_149 rfl (by decide) rfl dX12_remember_96 ?_
    refine a_iast F (by decide) rfl (o_1 c_3) dX12_remember_99 ?_
    refine a_aload_n F 0 dX12_remember_100 rfl rfl ?_
    refine a_dup F dX12_remember_101 rfl ?_
    refine a_geti F fl_12_249 rfl (by decide) rfl dX12_remember_102 ?_
    refine a_iconst (v := 1) F dX12_remember_105 (by decide) ?_
    refine a_iadd F dX12_remember_106 ?_
    refine a_puti F fl_12_249 rfl rfl rfl rfl (by decide) rfl dX12_remember_107 ?_
    exact a_vret F E dX12_remember_110 (Nat.le_refl 0) (Nat.le_refl 0) (e_2 c_3)
  · refine a_aload_n F 0 dX12_remember_55 rfl rfl ?_
    refine a_getr (b := 18) F fl_12_42 rfl (by decide) rfl rfl dX12_remember_56 ?_
    refine a_bipush (v := 53) F dX12_remember_59 (by decide) ?_
    refine a_aload_n F 0 dX12_remember_61 rfl rfl ?_
    refine a_geti F fl_12_249 rfl (by decide) rfl dX12_remember_62 ?_
    refine a_imul F dX12_remember_65 ?_
    refine a_iload_n F 1 dX12_remember_66 rfl rfl ?_
    refine a_iadd F dX12_remember_67 ?_
    refine a_aload_n F 0 dX12_remember_68 rfl rfl ?_
    refine a_getr (b := 1) F fl_12_13 rfl (by decide) rfl rfl dX12_remember_69 ?_
    refine a_iload_n F 1 dX12_remember_72 rfl rfl ?_
    refine a_iald F (by decide) rfl (o_3 c_3) dX12_remember_73 ?_
    refine a_iast F (by decide) rfl (o_4 c_3) dX12_remember_74 ?_
    refine a_iinc (v := x1 + 1) F 1 dX12_remember_75 rfl rfl (by decide) rfl ?_
    refine a_goto (tgt := 49) F dX12_remember_78 (by decide) ?_
    refine a_sub [1, 0] rfl ?_
    exact e_5 c_3

set_option maxRecDepth 10000 in
theorem c_remember (l : Launch) (I A : Nat → Nat → Int32) (J : Nat → Nat → Int64) (p : Nat) (hp : p ≤ 8) (hI : I 0 19 = nI p) : Con l 1 yX12_remember cX12_remember 2 none [.ref 0] (mS I A J) plM 0 0 (PM none (up2 I 0 19 (nI (remP p + 1))) (up1 A 18 (remRow (A 18) p (A 1) (I 0 2))) J) := by
  refine Con.of (by decide) (Nat.le_of_ble_eq_true rfl) (fun X hX9 hn9 F E => ?_)
  have copy : ∀ (q : Nat) (row : Nat → Int32) (I' : Nat → Nat → Int32), q ≤ 7 → I' 0 19 = nI q → I' 0 2 = I 0 2 → up2 I' 0 19 (nI (q + 1)) = up2 I 0 19 (nI (remP p + 1)) → upd (segF row (53 * q) 52 (A 1)) (53 * q + 52) (I 0 2) = remRow (A 18) p (A 1) (I 0 2) → WA X (mS I' (up1 A 18 row) J) plM 0 0 49 [(0, .ref 0), (1, .int 0)] [] := by
    intro q row I' hq e19 e2 eI eR
    have loop : ∀ n i, i + n = 52 → WA X (mS I' (up1 A 18 (segF row (53 * q) i (A 1))) J) plM 0 0 49 [(0, .ref 0), (1, .int (nI i))] [] := by
      intro n
      induction n with
      | zero =>
        intro i hi
        obtain rfl : i = 52 := by omega
        refine r_12_remember_49 F E ?_ ?_ (fun h => absurd (nI_le (a := 52) (b := 52) (by omega) (by omega)) h) (fun h => absurd (nI_le (a := 52) (b := 52) (by omega) (by omega)) h) (fun h => absurd (nI_le (a := 52) (b := 52) (by omega) (by omega)) h)
        · intro _; rw [e19, lit 53, pk_mul, lit 52, nI_add]; exact vp_in_nI (by omega) (by omega)
        · intro _
          refine ⟨rfl, ?_, rfl⟩
          rw [e19, lit 53, pk_mul, lit 52, nI_add, nI_clamp (by omega), nI_1, up1_up1, up1_s, eI, e2, eR]
      | succ n ih =>
        intro i hi
        refine r_12_remember_49 F E (fun h => absurd h (nI_ge (b := 52) (by omega) (by omega))) (fun h => absurd h (nI_ge (b := 52) (by omega) (by omega))) (fun _ => vp_in_nI (by omega) (by omega)) ?_ ?_
        · intro _; rw [e19, lit 53, pk_mul, nI_add]; exact vp_in_nI (by omega) (by omega)
        · intro _
          rw [e19, lit 53, pk_mul, nI_add, nI_clamp (by omega), nI_clamp (by omega), nI_1, up1_up1, up1_s, up1_p (show (1 : Nat) ≠ 18 by decide), seg_s]
          exact ih (i + 1) (by omega)
    have k := loop 52 0 rfl
    rw [seg_0] at k
    exact k
  refine r_12_remember_0 F ?_ ?_
  · intro h
    have h8 : p ≠ 8 := fun e => h (by rw [hI, e]; rfl)
    have k := copy p (A 18) I (by omega) hI rfl (by simp [remP, h8]) (by simp [remRow, remB, remP, h8])
    rw [up1_id] at k
    exact k
  · intro h
    have h8 : p = 8 := by rw [hI] at h; exact (nI_eq (by omega) (by omega)).mp h
    have loop : ∀ n i, i + n = 371 → WA X (mS I (up1 A 18 (fillF (A 18) i (fun k => A 18 (k + 53)))) J) plM 0 0 11 [(0, .ref 0), (1, .int (nI i))] [] := by
      intro n
      induction n with
      | zero =>
        intro i hi
        obtain rfl : i = 371 := by omega
        refine r_12_remember_11 F (fun _ => ?_) (fun h => absurd (nI_le (a := 371) (b := 371) (by omega) (by omega)) h) (fun h => absurd (nI_le (a := 371) (b := 371) (by omega) (by omega)) h) (fun h => absurd (nI_le (a := 371) (b := 371) (by omega) (by omega)) h)
        exact copy 7 _ _ (by omega) up2_s (up2_k (by decide)) (by rw [up2_up2]; simp [remP, h8]) (by simp [remRow, remB, remP, h8])
      | succ n ih =>
        intro i hi
        have e : nI i + 52 + 1 = nI (i + 53) := by rw [lit 52, nI_add, nI_1]
        refine r_12_remember_11 F (fun h => absurd h (nI_ge (b := 371) (by omega) (by omega))) (fun _ => ?_) (fun _ => vp_in_nI (by omega) (by omega)) (fun _ => ?_)
        · rw [e]; exact vp_in_nI (by omega) (by omega)
        · rw [e, nI_clamp (by omega), nI_clamp (by omega), nI_1, up1_up1, up1_s, fill_out (by omega), fill_s (A 18) (fun k => A 18 (k + 53)) i]
          exact ih (i + 1) (by omega)
    have k := loop 371 0 rfl
    rw [fill_0, up1_id] at k
    exact k

theorem r_12_back_0 {X : Ctx} (F : Fx X cX12_back RX12 2 2 0 0) {Φ : Option Value → HS → List Nat → Prop} (E : Ex X (some .boolean) 0 0 Φ) {I A : Nat → Nat → Int32} {J : Nat → Nat → Int64}
    (e_1 : (0 < (I 0 20) ∧ (I 0 20) < 6) → Φ (some (.int 0)) (mS (up2 I 0 0 0) A J) plM)
    (e_2 : (¬ (0 < (I 0 20) ∧ (I 0 20) < 6)) → (¬ (I 0 19) = 0) → WA X (mS (up2 (up2 I 0 0 0) 0 19 ((I 0 19) - 1)) A J) plM 0 0 33 [(0, .ref 0), (1, .int 0)] [])
    (e_3 : (¬ (0 < (I 0 20) ∧ (I 0 20) < 6)) → ((I 0 19) = 0) → Φ (some (.int 0)) (mS (up2 I 0 0 0) A J) plM) :
    WA X (mS I A J) plM 0 0 0 [(0, .ref 0)] [] := by
  refine a_aload_n F 0 dX12_back_0 rfl rfl ?_
  refine a_iconst (v := 0) F dX12_back_1 (by decide) ?_
  refine a_puti F fl_12_1 rfl rfl rfl rfl (by decide) rfl dX12_back_2 ?_
  refine a_aload_n F 0 dX12_back_5 rfl rfl ?_
  refine a_callV (b := 0) (As := []) (st := []) (ci := 12) F (c_isMatch (xl X) (up2 I 0 0 0) A J ) ml_12_252 im_yX12_isMatch se_yX12_isMatch (by decide) (by decide) rfl (by decide) rfl rfl dX12_back_6 (by decide) (Nat.le_refl 0) (Nat.le_refl 0) (hl_r (by decide) hl_nil) hs_nil ?_
  rintro _ _ _ ⟨rfl, rfl, rfl⟩ _
  show WA X (mS (up2 I 0 0 0) A J) plM 0 0 9 [(0, .ref 0)] [.int (if 0 < (I 0 20) ∧ (I 0 20) < 6 then 1 else 0)]
  refine a_ite (fun (c_1 : 0 < (I 0 20) ∧ (I 0 20) < 6) => ?_) (fun (c_1 : ¬ (0 < (I 0 20) ∧ (I 0 20) < 6)) => ?_)
  · refine a_if_ne (tgt := 19) F dX12_back_9 (by decide) (fun (c_2 : ¬ (1 : Int32) = 0) => ?_) (fun (c_2 : (1 : Int32) = 0) => ?_)
    · refine a_iconst (v := 0) F dX12_back_19 (by decide) ?_
      exact a_zret F E (by decide) dX12_back_20 (Nat.le_refl 0) (Nat.le_refl 0) (e_1 c_1)
    · exact absurd c_2 (by decide)
  · refine a_if_ne (tgt := 19) F dX12_back_9 (by decide) (fun (c_3 : ¬ (0 : Int32) = 0) => ?_) (fun (c_3 : (0 : Int32) = 0) => ?_)
    · exact absurd c_3 (by decide)
    · refine a_aload_n F 0 dX12_back_12 rfl rfl ?_
      refine a_geti F fl_12_249 rfl (by decide) rfl dX12_back_13 ?_
      refine a_if_ne (tgt := 21) F dX12_back_16 (by decide) (fun (c_4 : ¬ (I 0 19) = 0) => ?_) (fun (c_4 : (I 0 19) = 0) => ?_)
      · refine a_aload_n F 0 dX12_back_21 rfl rfl ?_
        refine a_dup F dX12_back_22 rfl ?_
        refine a_geti F fl_12_249 rfl (by decide) rfl dX12_back_23 ?_
        refine a_iconst (v := 1) F dX12_back_26 (by decide) ?_
        refine a_isub F dX12_back_27 ?_
        refine a_puti F fl_12_249 rfl rfl rfl rfl (by decide) rfl dX12_back_28 ?_
        refine a_iconst (v := 0) F dX12_back_31 (by decide) ?_
        refine a_istore_n F dX12_back_32 rfl (by decide) rfl ?_
        refine a_sub [1, 0] rfl ?_
        exact e_2 c_1 c_4
      · refine a_iconst (v := 0) F dX12_back_19 (by decide) ?_
        exact a_zret F E (by decide) dX12_back_20 (Nat.le_refl 0) (Nat.le_refl 0) (e_3 c_1 c_4)

theorem r_12_back_33 {X : Ctx} (F : Fx X cX12_back RX12 2 2 0 0) {Φ : Option Value → HS → List Nat → Prop} (E : Ex X (some .boolean) 0 0 Φ) {I A : Nat → Nat → Int32} {J : Nat → Nat → Int64} {x1 : Int32}
    (o_1 : (52 ≤ x1) → vp_in ((53 * (I 0 19)) + 52) 424)
    (e_2 : (52 ≤ x1) → Φ (some (.int 1)) (mS (up2 (up2 I 0 2 (A 18 ((53 * (I 0 19)) + 52).toNatClampNeg)) 0 16 0) A J) plM)
    (o_3 : (¬ (52 ≤ x1)) → vp_in ((53 * (I 0 19)) + x1) 424)
    (o_4 : (¬ (52 ≤ x1)) → vp_in x1 52)
    (e_5 : (¬ (52 ≤ x1)) → WA X (mS I (up1 A 1 (upd (A 1) x1.toNatClampNeg (A 18 ((53 * (I 0 19)) + x1).toNatClampNeg))) J) plM 0 0 33 [(0, .ref 0), (1, .int (x1 + 1))] []) :
    WA X (mS I A J) plM 0 0 33 [(0, .ref 0), (1, .int x1)] [] := by
  refine a_iload_n F 1 dX12_back_33 rfl rfl ?_
  refine a_bipush (v := 52) F dX12_back_34 (by decide) ?_
  refine a_icmp_ge (tgt := 65) F dX12_back_36 (by decide) (fun (c_5 : 52 ≤ x1) => ?_) (fun (c_5 : ¬ (52 ≤ x1)) => ?_)
  · refine a_aload_n F 0 dX12_back_65 rfl rfl ?_
    refine a_aload_n F 0 dX12_back_66 rfl rfl ?_
    refine a_getr (b := 18) F fl_12_42 rfl (by decide) rfl rfl dX12_back_67 ?_
    refine a_bipush (v := 53) F dX12_back_70 (by decide) ?_
    refine a_aload_n F 0 dX12_back_72 rfl rfl ?_
    refine a_geti F fl_12_249 rfl (by decide) rfl dX12_back_73 ?_
    refine a_imul F dX12_back_76 ?_
    refine a_bipush (v := 52) F dX12_back_77 (by decide) ?_
    refine a_iadd F dX12_back_79 ?_
    refine a_iald F (by decide) rfl (o_1 c_5) dX12_back_80 ?_
    refine a_puti F fl_12_149 rfl rfl rfl rfl (by decide) rfl dX12_back_81 ?_
    refine a_aload_n F 0 dX12_back_84 rfl rfl ?_
    refine a_iconst (v := 0) F dX12_back_85 (by decide) ?_
    refine a_puti F fl_12_152 rfl rfl rfl rfl (by decide) rfl dX12_back_86 ?_
    refine a_iconst (v := 1) F dX12_back_89 (by decide) ?_
    exact a_zret F E (by decide) dX12_back_90 (Nat.le_refl 0) (Nat.le_refl 0) (e_2 c_5)
  · refine a_aload_n F 0 dX12_back_39 rfl rfl ?_
    refine a_getr (b := 1) F fl_12_13 rfl (by decide) rfl rfl dX12_back_40 ?_
    refine a_iload_n F 1 dX12_back_43 rfl rfl ?_
    refine a_aload_n F 0 dX12_back_44 rfl rfl ?_
    refine a_getr (b := 18) F fl_12_42 rfl (by decide) rfl rfl dX12_back_45 ?_
    refine a_bipush (v := 53) F dX12_back_48 (by decide) ?_
    refine a_aload_n F 0 dX12_back_50 rfl rfl ?_
    refine a_geti F fl_12_249 rfl (by decide) rfl dX12_back_51 ?_
    refine a_imul F dX12_back_54 ?_
    refine a_iload_n F 1 dX12_back_55 rfl rfl ?_
    refine a_iadd F dX12_back_56 ?_
    refine a_iald F (by decide) rfl (o_3 c_5) dX12_back_57 ?_
    refine a_iast F (by decide) rfl (o_4 c_5) dX12_back_58 ?_
    refine a_iinc (v := x1 + 1) F 1 dX12_back_59 rfl rfl (by decide) rfl ?_
    refine a_goto (tgt := 33) F dX12_back_62 (by decide) ?_
    refine a_sub [1, 0] rfl ?_
    exact e_5 c_5

set_option maxRecDepth 10000 in
theorem c_back (l : Launch) (I A : Nat → Nat → Int32) (J : Nat → Nat → Int64) (p : Nat) (hp : p ≤ 8) (hI : I 0 19 = nI p) : Con l 2 yX12_back cX12_back 2 (some .boolean) [.ref 0] (mS I A J) plM 0 0 (if (0 < I 0 20 ∧ I 0 20 < 6) ∨ p = 0 then PM (some (.int 0)) (up2 I 0 0 0) A J else PM (some (.int 1)) (up2 (up2 (up2 (up2 I 0 0 0) 0 19 (nI (p - 1))) 0 2 (A 18 (53 * (p - 1) + 52))) 0 16 0) (up1 A 1 (segF (A 1) 0 52 (fun k => A 18 (53 * (p - 1) + k)))) J) := by
  refine Con.of (by decide) (Nat.le_of_ble_eq_true rfl) (fun X hX9 hn9 F E => ?_)
  refine r_12_back_0 F E ?_ ?_ ?_
  · intro h; rw [if_pos (Or.inl h)]; exact ⟨rfl, rfl, rfl⟩
  · intro h h0
    have h0 : p ≠ 0 := fun e => h0 (by rw [hI, e]; rfl)
    rw [if_neg (fun o => o.elim h h0)] at E
    have e1 : I 0 19 - 1 = nI (p - 1) := by rw [hI]; exact pk_sub (b := 1) (by omega)
    rw [e1]
    generalize hI9 : up2 (up2 I 0 0 0) 0 19 (nI (p - 1)) = I9 at E ⊢
    have e19 : I9 0 19 = nI (p - 1) := by rw [← hI9]; exact up2_s
    have loop : ∀ n i, i + n = 52 → WA X (mS I9 (up1 A 1 (segF (A 1) 0 i (fun k => A 18 (53 * (p - 1) + k)))) J) plM 0 0 33 [(0, .ref 0), (1, .int (nI i))] [] := by
      intro n
      induction n with
      | zero =>
        intro i hi
        obtain rfl : i = 52 := by omega
        refine r_12_back_33 F E ?_ ?_ (fun h => absurd (nI_le (a := 52) (b := 52) (by omega) (by omega)) h) (fun h => absurd (nI_le (a := 52) (b := 52) (by omega) (by omega)) h) (fun h => absurd (nI_le (a := 52) (b := 52) (by omega) (by omega)) h)
        · intro _; rw [e19, lit 53, pk_mul, lit 52, nI_add]; exact vp_in_nI (by omega) (by omega)
        · intro _
          rw [e19, lit 53, pk_mul, lit 52, nI_add, nI_clamp (by omega), up1_p (show (18 : Nat) ≠ 1 by decide)]
          exact ⟨rfl, rfl, rfl⟩
      | succ n ih =>
        intro i hi
        refine r_12_back_33 F E (fun h => absurd h (nI_ge (b := 52) (by omega) (by omega))) (fun h => absurd h (nI_ge (b := 52) (by omega) (by omega))) ?_ (fun _ => vp_in_nI (by omega) (by omega)) ?_
        · intro _; rw [e19, lit 53, pk_mul, nI_add]; exact vp_in_nI (by omega) (by omega)
        · intro _
          rw [e19, lit 53, pk_mul, nI_add, nI_clamp (by omega), nI_clamp (by omega), nI_1, up1_up1, up1_s, up1_p (show (18 : Nat) ≠ 1 by decide)]
          have k := ih (i + 1) (by omega)
          rw [← seg_s, Nat.zero_add] at k
          exact k
    have k := loop 52 0 rfl
    rw [seg_0, up1_id] at k
    exact k
  · intro h h0
    have h0 : p = 0 := by rw [hI] at h0; exact (nI_eq (by omega) (by omega)).mp h0
    rw [if_pos (Or.inr h0)]; exact ⟨rfl, rfl, rfl⟩
