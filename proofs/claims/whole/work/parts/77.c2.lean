theorem ix_s {m t : Nat} (hm : m ≤ 1) (ht : t ≤ 25) : ((1 : Int32) - nI m) * 26 + 25 - nI t = nI (26 * (1 - m) + (25 - t)) := by
  rw [ix_o hm, show nI (1 - m) * 26 + (25 : Int32) = nI (26 * (1 - m) + 25) from ix_a _ 25, pk_sub (by omega)]; congr 1; omega
theorem ix_b {m : Nat} (hm : m ≤ 1) : ((1 : Int32) - nI m) * 26 + 25 = nI (26 * (1 - m) + 25) := by rw [ix_o hm]; exact ix_a _ 25
theorem ix_p {m t : Nat} (hm : m ≤ 1) (ht : t ≤ 25) : ((1 : Int32) - nI m) * 26 + (25 - nI t) = nI (26 * (1 - m) + (25 - t)) := by
  rw [ix_o hm, show (25 : Int32) - nI t = nI (25 - t) from pk_sub (a := 25) ht, ix_a]
def mvQ (P O : Nat → Nat → Option Nat) (I A : Nat → Nat → Int32) (J : Nat → Nat → Int64) (pl : List Nat) (p : Nat) (B : Nat → Nat) (m f d : Nat) : Option Value → HS → List Nat → Prop := fun rv σ' pl' => ∃ r', rv = some (.int (@ite Int32 (hitP B m f d) (Classical.propDecidable _) 1 0)) ∧ σ' = mC P O I (up1 A (p + 1) r') J ∧ pl = pl' ∧ bdR r' 0 (mvB B m f d)
def umQ (P O : Nat → Nat → Option Nat) (I A : Nat → Nat → Int32) (J : Nat → Nat → Int64) (pl : List Nat) (p : Nat) (B : Nat → Nat) : Option Value → HS → List Nat → Prop := fun rv σ' pl' => ∃ r', rv = none ∧ σ' = mC P O I (up1 A (p + 1) r') J ∧ pl = pl' ∧ bdR r' 0 B
def um1 (M : Nat → Nat) (m f d : Nat) : Nat → Nat := va_up (va_up M (26 * m + (f - d)) (M (26 * m + (f - d)) - 1)) (26 * m + f) (va_up M (26 * m + (f - d)) (M (26 * m + (f - d)) - 1) (26 * m + f) + 1)
def um2 (U : Nat → Nat) (m f d : Nat) : Nat → Nat := va_up (va_up U (26 * (1 - m) + 25) (U (26 * (1 - m) + 25) - 1)) (26 * (1 - m) + (25 - (f - d))) (va_up U (26 * (1 - m) + 25) (U (26 * (1 - m) + 25) - 1) (26 * (1 - m) + (25 - (f - d))) + 1)
theorem um_own {B : Nat → Nat} {m f d t : Nat} (hm : m ≤ 1) (hd : 1 ≤ d) (hf1 : 1 ≤ f) (hf : f ≤ 25) (h0 : B (26 * m + f) ≠ 0) (ht : t ≤ 25) : um1 (mvB B m f d) m f d (26 * m + t) = B (26 * m + t) := by
  have own := fun t (ht : t ≤ 25) => mvB_own (B := B) (m := m) (p := f) (d := d) (t := t) hm hd hf1 hf ht
  unfold um1
  by_cases c : t = f
  · subst c
    rw [va_s, va_n (by omega), own t ht, if_pos rfl]; omega
  · rw [va_n (by omega)]
    by_cases c2 : t = f - d
    · subst c2
      rw [va_s, own _ ht, if_neg c, if_pos rfl]; omega
    · rw [va_n (by omega), own t ht, if_neg c, if_neg c2]
theorem um_opp {B : Nat → Nat} {m f d t : Nat} (hm : m ≤ 1) (hf : f ≤ 25) (ht : t ≤ 25) : um1 (mvB B m f d) m f d (26 * (1 - m) + t) = mvB B m f d (26 * (1 - m) + t) := by
  unfold um1; rw [va_n (by omega), va_n (by omega)]
theorem k_cases {m k : Nat} (hm : m ≤ 1) (hk : k < 52) : (∃ t, t ≤ 25 ∧ k = 26 * m + t) ∨ (∃ t, t ≤ 25 ∧ k = 26 * (1 - m) + t) := by
  rcases (show m = 0 ∨ m = 1 by omega) with rfl | rfl <;> rcases Nat.lt_or_ge k 26 with c | c
  · exact Or.inl ⟨k, by omega, by omega⟩
  · exact Or.inr ⟨k - 26, by omega, by omega⟩
  · exact Or.inr ⟨k, by omega, by omega⟩
  · exact Or.inl ⟨k - 26, by omega, by omega⟩
theorem um_no {B : Nat → Nat} {m f d : Nat} (hm : m ≤ 1) (hd : 1 ≤ d) (hf1 : 1 ≤ f) (hf : f ≤ 25) (h0 : B (26 * m + f) ≠ 0) (hh : ¬ hitP B m f d) (k : Nat) (hk : k < 52) : um1 (mvB B m f d) m f d k = B k := by
  rcases k_cases hm hk with ⟨t, ht, rfl⟩ | ⟨t, ht, rfl⟩
  · exact um_own hm hd hf1 hf h0 ht
  · rw [um_opp hm hf ht, mvB_opp hm hf hd ht, if_neg (show ¬ (d < f ∧ ¬ B (26 * (1 - m) + (25 - (f - d))) = 0) from hh)]
theorem um_hit {B : Nat → Nat} {m f d : Nat} (hm : m ≤ 1) (hd : 1 ≤ d) (hf1 : 1 ≤ f) (hf : f ≤ 25) (h0 : B (26 * m + f) ≠ 0) (hh : hitP B m f d) (h1 : B (26 * (1 - m) + (25 - (f - d))) ≤ 1) (k : Nat) (hk : k < 52) : um2 (um1 (mvB B m f d) m f d) m f d k = B k := by
  have hdf := hh.1
  have opp := fun t (ht : t ≤ 25) => (um_opp (B := B) (d := d) hm hf ht).trans ((mvB_opp (B := B) (m := m) (p := f) (d := d) hm hf hd ht).trans (if_pos hh))
  unfold um2
  rcases k_cases hm hk with ⟨t, ht, rfl⟩ | ⟨t, ht, rfl⟩
  · rw [va_n (by omega), va_n (by omega)]; exact um_own hm hd hf1 hf h0 ht
  · by_cases c : t = 25 - (f - d)
    · subst c
      rw [va_s, va_n (by omega), opp _ ht, if_neg (by omega), if_pos rfl]
      have := hh.2; omega
    · rw [va_n (by omega)]
      by_cases c2 : t = 25
      · subst c2; rw [va_s, opp 25 ht, if_pos rfl]; omega
      · rw [va_n (by omega), opp t ht, if_neg c2, if_neg c]

theorem r_0_move_0 {X : Ctx} (F : Fx X cX0_move RX0 4 2 0 0) {P O : Nat → Nat → Option Nat} (hP : laP P) {I A : Nat → Nat → Int32} {J : Nat → Nat → Int64} {pl : List Nat} (hB : inB pl) {x1 x2 : Int32} {p : Nat} (hk_p : kC p = 0) (hp_p : p ∈ pl) (hq_p : p + 1 ∈ pl)
    (o_1 : vp_in (((I p 1) * 26) + x1) 52)
    (o_2 : vp_in (((I p 1) * 26) + x1) 52)
    (o_3 : vp_in (((I p 1) * 26) + x2) 52)
    (o_4 : vp_in (((I p 1) * 26) + x2) 52)
    (e_5 : WA X (mC P O I (up1 (up1 A (p + 1) (upd (A (p + 1)) (((I p 1) * 26) + x1).toNatClampNeg ((A (p + 1) (((I p 1) * 26) + x1).toNatClampNeg) - 1))) (p + 1) (upd ((up1 A (p + 1) (upd (A (p + 1)) (((I p 1) * 26) + x1).toNatClampNeg ((A (p + 1) (((I p 1) * 26) + x1).toNatClampNeg) - 1))) (p + 1)) (((I p 1) * 26) + x2).toNatClampNeg (((up1 A (p + 1) (upd (A (p + 1)) (((I p 1) * 26) + x1).toNatClampNeg ((A (p + 1) (((I p 1) * 26) + x1).toNatClampNeg) - 1))) (p + 1) (((I p 1) * 26) + x2).toNatClampNeg) + 1))) J) pl 0 0 36 [(0, .ref p), (1, .int x1), (2, .int x2)] []) :
    WA X (mC P O I A J) pl 0 0 0 [(0, .ref p), (1, .int x1), (2, .int x2)] [] := by
  refine a_aload_n F 0 dX0_move_0 rfl rfl ?_
  refine a_getr (b := (p + 1)) F fl_0_9 rfl (hp_p) hk_p (laP_bd hP hk_p) dX0_move_1 ?_
  refine a_aload_n F 0 dX0_move_4 rfl rfl ?_
  refine a_geti F fl_0_25 rfl (hp_p) hk_p dX0_move_5 ?_
  refine a_bipush (v := 26) F dX0_move_8 (by decide) ?_
  refine a_imul F dX0_move_10 ?_
  refine a_iload_n F 1 dX0_move_11 rfl rfl ?_
  refine a_iadd F dX0_move_12 ?_
  refine a_dup2 F dX0_move_13 rfl rfl ?_
  refine a_iald F (hq_p) (k_bd hk_p).1 (show vp_in _ (nC (p + 1)) from (k_bd hk_p).2 ▸ o_1) dX0_move_14 ?_
  refine a_iconst (v := 1) F dX0_move_15 (by decide) ?_
  refine a_isub F dX0_move_16 ?_
  refine a_iast F (hq_p) (k_bd hk_p).1 (show vp_in _ (nC (p + 1)) from (k_bd hk_p).2 ▸ o_2) dX0_move_17 ?_
  refine a_aload_n F 0 dX0_move_18 rfl rfl ?_
  refine a_getr (b := (p + 1)) F fl_0_9 rfl (hp_p) hk_p (laP_bd hP hk_p) dX0_move_19 ?_
  refine a_aload_n F 0 dX0_move_22 rfl rfl ?_
  refine a_geti F fl_0_25 rfl (hp_p) hk_p dX0_move_23 ?_
  refine a_bipush (v := 26) F dX0_move_26 (by decide) ?_
  refine a_imul F dX0_move_28 ?_
  refine a_iload_n F 2 dX0_move_29 rfl rfl ?_
  refine a_iadd F dX0_move_30 ?_
  refine a_dup2 F dX0_move_31 rfl rfl ?_
  refine a_iald F (hq_p) (k_bd hk_p).1 (show vp_in _ (nC (p + 1)) from (k_bd hk_p).2 ▸ o_3) dX0_move_32 ?_
  refine a_iconst (v := 1) F dX0_move_33 (by decide) ?_
  refine a_iadd F dX0_move_34 ?_
  refine a_iast F (hq_p) (k_bd hk_p).1 (show vp_in _ (nC (p + 1)) from (k_bd hk_p).2 ▸ o_4) dX0_move_35 ?_
  exact e_5

theorem r_0_move_36 {X : Ctx} (F : Fx X cX0_move RX0 4 2 0 0) {P O : Nat → Nat → Option Nat} (hP : laP P) {I A : Nat → Nat → Int32} {J : Nat → Nat → Int64} {pl : List Nat} (hB : inB pl) {x1 x2 : Int32} {p : Nat} (hk_p : kC p = 0) (hp_p : p ∈ pl) (hq_p : p + 1 ∈ pl)
    (e_1 : (x2 ≤ 0) → WA X (mC P O I A J) pl 0 0 63 [(0, .ref p), (1, .int x1), (2, .int x2), (3, .int 0)] [])
    (o_2 : (¬ (x2 ≤ 0)) → vp_in ((1 - (I p 1)) * 26 + (25 - x2)) 52)
    (e_3 : (¬ (x2 ≤ 0)) → (((A (p + 1)) ((1 - (I p 1)) * 26 + (25 - x2)).toNatClampNeg) ≤ 0) → WA X (mC P O I A J) pl 0 0 63 [(0, .ref p), (1, .int x1), (2, .int x2), (3, .int 0)] [])
    (e_4 : (¬ (x2 ≤ 0)) → (¬ (((A (p + 1)) ((1 - (I p 1)) * 26 + (25 - x2)).toNatClampNeg) ≤ 0)) → WA X (mC P O I A J) pl 0 0 63 [(0, .ref p), (1, .int x1), (2, .int x2), (3, .int 1)] []) :
    WA X (mC P O I A J) pl 0 0 36 [(0, .ref p), (1, .int x1), (2, .int x2)] [] := by
  refine a_iload_n F 2 dX0_move_36 rfl rfl ?_
  refine a_if_le (tgt := 61) F dX0_move_37 (by decide) (fun (c_1 : x2 ≤ 0) => ?_) (fun (c_1 : ¬ (x2 ≤ 0)) => ?_)
  · refine a_iconst (v := 0) F dX0_move_61 (by decide) ?_
    refine a_istore_n F dX0_move_62 rfl (by decide) rfl ?_
    refine a_sub [1, 2, 3, 0] rfl ?_
    exact e_1 c_1
  · refine a_aload_n F 0 dX0_move_40 rfl rfl ?_
    refine a_iconst (v := 1) F dX0_move_41 (by decide) ?_
    refine a_aload_n F 0 dX0_move_42 rfl rfl ?_
    refine a_geti F fl_0_25 rfl (hp_p) hk_p dX0_move_43 ?_
    refine a_isub F dX0_move_46 ?_
    refine a_bipush (v := 25) F dX0_move_47 (by decide) ?_
    refine a_iload_n F 2 dX0_move_49 rfl rfl ?_
    refine a_isub F dX0_move_50 ?_
    refine a_callV (b := p) (As := [.int (1 - (I p 1)), .int (25 - x2)]) (st := []) (ci := 0) F (c_0_count (xl X) hP I A J hB p hk_p (hp_p) (hq_p) (1 - (I p 1)) (25 - x2) (o_2 c_1)) ml_0_47 im_yX0_count se_yX0_count (by decide) (by decide) rfl (hp_p) hk_p rfl dX0_move_51 (by decide) (Nat.le_refl 0) (Nat.le_refl 0) (hl_r (hp_p) (hl_i (hl_i hl_nil))) hs_nil ?_
    rintro _ _ _ ⟨rfl, rfl, rfl⟩ _
    show WA X (mC P O I A J) pl 0 0 54 [(0, .ref p), (1, .int x1), (2, .int x2)] [.int ((A (p + 1)) ((1 - (I p 1)) * 26 + (25 - x2)).toNatClampNeg)]
    refine a_if_le (tgt := 61) F dX0_move_54 (by decide) (fun (c_2 : ((A (p + 1)) ((1 - (I p 1)) * 26 + (25 - x2)).toNatClampNeg) ≤ 0) => ?_) (fun (c_2 : ¬ (((A (p + 1)) ((1 - (I p 1)) * 26 + (25 - x2)).toNatClampNeg) ≤ 0)) => ?_)
    · refine a_iconst (v := 0) F dX0_move_61 (by decide) ?_
      refine a_istore_n F dX0_move_62 rfl (by decide) rfl ?_
      refine a_sub [1, 2, 3, 0] rfl ?_
      exact e_3 c_1 c_2
    · refine a_iconst (v := 1) F dX0_move_57 (by decide) ?_
      refine a_goto (tgt := 62) F dX0_move_58 (by decide) ?_
      refine a_istore_n F dX0_move_62 rfl (by decide) rfl ?_
      refine a_sub [1, 2, 3, 0] rfl ?_
      exact e_4 c_1 c_2

theorem r_0_move_63 {X : Ctx} (F : Fx X cX0_move RX0 4 2 0 0) {P O : Nat → Nat → Option Nat} (hP : laP P) {I A : Nat → Nat → Int32} {J : Nat → Nat → Int64} {pl : List Nat} (hB : inB pl) {x1 x2 x3 : Int32} {p : Nat} (hk_p : kC p = 0) (hp_p : p ∈ pl) (hq_p : p + 1 ∈ pl)
    (e_1 : (x3 = 0) → WA X (mC P O I A J) pl 0 0 111 [(0, .ref p), (1, .int x1), (2, .int x2), (3, .int x3)] [])
    (e_2 : (¬ (x3 = 0)) → WA X (mC P O I A J) pl 0 0 67 [(0, .ref p), (1, .int x1), (2, .int x2), (3, .int x3)] []) :
    WA X (mC P O I A J) pl 0 0 63 [(0, .ref p), (1, .int x1), (2, .int x2), (3, .int x3)] [] := by
  refine a_iload_n F 3 dX0_move_63 rfl rfl ?_
  refine a_if_eq (tgt := 111) F dX0_move_64 (by decide) (fun (c_3 : x3 = 0) => ?_) (fun (c_3 : ¬ (x3 = 0)) => ?_)
  · exact e_1 c_3
  · exact e_2 c_3

theorem r_0_move_67 {X : Ctx} (F : Fx X cX0_move RX0 4 2 0 0) {P O : Nat → Nat → Option Nat} (hP : laP P) {I A : Nat → Nat → Int32} {J : Nat → Nat → Int64} {pl : List Nat} (hB : inB pl) {x1 x2 x3 : Int32} {p : Nat} (hk_p : kC p = 0) (hp_p : p ∈ pl) (hq_p : p + 1 ∈ pl)
    (o_1 : vp_in ((((1 - (I p 1)) * 26) + 25) - x2) 52)
    (o_2 : vp_in ((((1 - (I p 1)) * 26) + 25) - x2) 52)
    (e_3 : WA X (mC P O I (up1 A (p + 1) (upd (A (p + 1)) ((((1 - (I p 1)) * 26) + 25) - x2).toNatClampNeg ((A (p + 1) ((((1 - (I p 1)) * 26) + 25) - x2).toNatClampNeg) - 1))) J) pl 0 0 90 [(0, .ref p), (1, .int x1), (2, .int x2), (3, .int x3)] []) :
    WA X (mC P O I A J) pl 0 0 67 [(0, .ref p), (1, .int x1), (2, .int x2), (3, .int x3)] [] := by
  refine a_aload_n F 0 dX0_move_67 rfl rfl ?_
  refine a_getr (b := (p + 1)) F fl_0_9 rfl (hp_p) hk_p (laP_bd hP hk_p) dX0_move_68 ?_
  refine a_iconst (v := 1) F dX0_move_71 (by decide) ?_
  refine a_aload_n F 0 dX0_move_72 rfl rfl ?_
  refine a_geti F fl_0_25 rfl (hp_p) hk_p dX0_move_73 ?_
  refine a_isub F dX0_move_76 ?_
  refine a_bipush (v := 26) F dX0_move_77 (by decide) ?_
  refine a_imul F dX0_move_79 ?_
  refine a_bipush (v := 25) F dX0_move_80 (by decide) ?_
  refine a_iadd F dX0_move_82 ?_
  refine a_iload_n F 2 dX0_move_83 rfl rfl ?_
  refine a_isub F dX0_move_84 ?_
  refine a_dup2 F dX0_move_85 rfl rfl ?_
  refine a_iald F (hq_p) (k_bd hk_p).1 (show vp_in _ (nC (p + 1)) from (k_bd hk_p).2 ▸ o_1) dX0_move_86 ?_
  refine a_iconst (v := 1) F dX0_move_87 (by decide) ?_
  refine a_isub F dX0_move_88 ?_
  refine a_iast F (hq_p) (k_bd hk_p).1 (show vp_in _ (nC (p + 1)) from (k_bd hk_p).2 ▸ o_2) dX0_move_89 ?_
  exact e_3

theorem r_0_move_90 {X : Ctx} (F : Fx X cX0_move RX0 4 2 0 0) {P O : Nat → Nat → Option Nat} (hP : laP P) {I A : Nat → Nat → Int32} {J : Nat → Nat → Int64} {pl : List Nat} (hB : inB pl) {x1 x2 x3 : Int32} {p : Nat} (hk_p : kC p = 0) (hp_p : p ∈ pl) (hq_p : p + 1 ∈ pl)
    (o_1 : vp_in (((1 - (I p 1)) * 26) + 25) 52)
    (o_2 : vp_in (((1 - (I p 1)) * 26) + 25) 52)
    (e_3 : WA X (mC P O I (up1 A (p + 1) (upd (A (p + 1)) (((1 - (I p 1)) * 26) + 25).toNatClampNeg ((A (p + 1) (((1 - (I p 1)) * 26) + 25).toNatClampNeg) + 1))) J) pl 0 0 111 [(0, .ref p), (1, .int x1), (2, .int x2), (3, .int x3)] []) :
    WA X (mC P O I A J) pl 0 0 90 [(0, .ref p), (1, .int x1), (2, .int x2), (3, .int x3)] [] := by
  refine a_aload_n F 0 dX0_move_90 rfl rfl ?_
  refine a_getr (b := (p + 1)) F fl_0_9 rfl (hp_p) hk_p (laP_bd hP hk_p) dX0_move_91 ?_
  refine a_iconst (v := 1) F dX0_move_94 (by decide) ?_
  refine a_aload_n F 0 dX0_move_95 rfl rfl ?_
  refine a_geti F fl_0_25 rfl (hp_p) hk_p dX0_move_96 ?_
  refine a_isub F dX0_move_99 ?_
  refine a_bipush (v := 26) F dX0_move_100 (by decide) ?_
  refine a_imul F dX0_move_102 ?_
  refine a_bipush (v := 25) F dX0_move_103 (by decide) ?_
  refine a_iadd F dX0_move_105 ?_
  refine a_dup2 F dX0_move_106 rfl rfl ?_
  refine a_iald F (hq_p) (k_bd hk_p).1 (show vp_in _ (nC (p + 1)) from (k_bd hk_p).2 ▸ o_1) dX0_move_107 ?_
  refine a_iconst (v := 1) F dX0_move_108 (by decide) ?_
  refine a_iadd F dX0_move_109 ?_
  refine a_iast F (hq_p) (k_bd hk_p).1 (show vp_in _ (nC (p + 1)) from (k_bd hk_p).2 ▸ o_2) dX0_move_110 ?_
  exact e_3

theorem r_0_move_111 {X : Ctx} (F : Fx X cX0_move RX0 4 2 0 0) {Φ : Option Value → HS → List Nat → Prop} (E : Ex X (some .boolean) 0 0 Φ) {P O : Nat → Nat → Option Nat} (hP : laP P) {I A : Nat → Nat → Int32} {J : Nat → Nat → Int64} {pl : List Nat} (hB : inB pl) {x1 x2 x3 : Int32} {p : Nat} (hk_p : kC p = 0) (hp_p : p ∈ pl) (hq_p : p + 1 ∈ pl)
    (e_1 : Φ (some (.int x3)) (mC P O I A J) pl)
    (o_2 : x3 = 0 ∨ x3 = 1) :
    WA X (mC P O I A J) pl 0 0 111 [(0, .ref p), (1, .int x1), (2, .int x2), (3, .int x3)] [] := by
  refine a_iload_n F 3 dX0_move_111 rfl rfl ?_
  exact a_zret F E (o_2) dX0_move_112 (Nat.le_refl 0) (Nat.le_refl 0) (e_1)

set_option maxRecDepth 10000 in
theorem c_0_move (l : Launch) {P O : Nat → Nat → Option Nat} (hP : laP P) (I A : Nat → Nat → Int32) (J : Nat → Nat → Int64) {pl : List Nat} (hB : inB pl) (p : Nat) (hk_p : kC p = 0) (hp_p : p ∈ pl) (hq_p : p + 1 ∈ pl) (f d m : Nat) (B : Nat → Nat) (hf1 : 1 ≤ f) (hf : f ≤ 25) (hd1 : 1 ≤ d) (hm : m ≤ 1) (hI : I p 1 = nI m) (hb : bdR (A (p + 1)) 0 B) (hok : okB B) (hc : cmP B m f d) : Con l 2 yX0_move cX0_move 4 (some .boolean) [.ref p, .int (nI f), .int (nI (f - d))] (mC P O I A J) pl 0 0 (mvQ P O I A J pl p B m f d) := by
  refine Con.of (by decide) (Nat.le_of_ble_eq_true rfl) (fun X hX9 hn9 F E => ?_)
  have bl : ∀ k, k < 52 → B k ≤ 15 := fun k hk => okB_le hok hk
  have iF : I p 1 * 26 + nI f = nI (26 * m + f) := by rw [hI, ix_a]
  have iT : I p 1 * 26 + nI (f - d) = nI (26 * m + (f - d)) := by rw [hI, ix_a]
  have vF : vp_in (I p 1 * 26 + nI f) 52 := by rw [iF]; exact vp_in_nI (by omega) (by omega)
  have vT : vp_in (I p 1 * 26 + nI (f - d)) 52 := by rw [iT]; exact vp_in_nI (by omega) (by omega)
  refine r_0_move_0 F hP hB hk_p hp_p hq_p vF vF vT vT ?_
  rw [up1_up1, up1_s, iF, iT, nI_clamp (by omega), nI_clamp (by omega)]
  have hB0 := hc.1
  have h1 := bd_dec hb (k := 26 * m + f) (by omega) (by omega)
  have h2 : bdR _ 0 (mv1 B m f d) := bd_inc h1 (k := 26 * m + (f - d)) (by omega) (by
    by_cases z : f - d = f
    · omega
    · rw [va_n (by omega)]; have := bl (26 * m + (f - d)) (by omega); omega)
  generalize upd (upd (A (p + 1)) (26 * m + f) (A (p + 1) (26 * m + f) - 1)) (26 * m + (f - d)) (upd (A (p + 1)) (26 * m + f) (A (p + 1) (26 * m + f) - 1) (26 * m + (f - d)) + 1) = r2 at h2
  have eo : ∀ t, t ≤ 25 → mv1 B m f d (26 * (1 - m) + t) = B (26 * (1 - m) + t) := fun t ht => by
    unfold mv1; rw [va_n (by omega), va_n (by omega)]
  have fin : ∀ (x3 : Int32) r', (x3 = 0 ∨ x3 = 1) → x3 = @ite Int32 (hitP B m f d) (Classical.propDecidable _) 1 0 → bdR r' 0 (mvB B m f d) → WA X (mC P O I (up1 A (p + 1) r') J) pl 0 0 111 [(0, .ref p), (1, .int (nI f)), (2, .int (nI (f - d))), (3, .int x3)] [] := fun x3 r' h3 ex hr => r_0_move_111 F E hP hB hk_p hp_p hq_p ⟨r', by rw [ex], rfl, rfl, hr⟩ h3
  have nohit : ¬ hitP B m f d → WA X (mC P O I (up1 A (p + 1) r2) J) pl 0 0 63 [(0, .ref p), (1, .int (nI f)), (2, .int (nI (f - d))), (3, .int 0)] [] := fun hh => by
    refine r_0_move_63 F hP hB hk_p hp_p hq_p (fun _ => fin 0 r2 (Or.inl rfl) (by rw [if_neg hh]) ?_) (fun z => absurd rfl z)
    unfold mvB; rw [if_neg (show ¬ (d < f ∧ ¬ B (26 * (1 - m) + (25 - (f - d))) = 0) from hh)]; exact h2
  have c0 : nI (f - d) ≤ 0 ↔ f - d = 0 := nI_le0 (by omega)
  have i0 : (1 - I p 1) * 26 + (25 - nI (f - d)) = nI (26 * (1 - m) + (25 - (f - d))) := by rw [hI]; exact ix_p hm (by omega)
  have ca : (up1 A (p + 1) r2) (p + 1) ((1 - I p 1) * 26 + (25 - nI (f - d))).toNatClampNeg ≤ 0 ↔ B (26 * (1 - m) + (25 - (f - d))) = 0 := by
    have := bl (26 * (1 - m) + (25 - (f - d))) (by omega)
    rw [i0, nI_clamp (by omega), up1_s, bd_at h2 (by omega), eo _ (by omega)]; exact nI_le0 (by omega)
  refine r_0_move_36 F hP hB hk_p hp_p hq_p (fun z => nohit (fun y => by have := c0.mp z; have := y.1; omega)) (fun _ => by rw [i0]; exact vp_in_nI (by omega) (by omega)) (fun _ z => nohit (fun y => y.2 (ca.mp z))) (fun z1 z2 => ?_)
  have hh : hitP B m f d := ⟨by have := (not_congr c0).mp z1; omega, fun y => z2 (ca.mpr y)⟩
  have h01 : B (26 * (1 - m) + (25 - (f - d))) ≤ 1 := by have := hc.2.2; rw [if_pos hh.1] at this; exact this
  refine r_0_move_63 F hP hB hk_p hp_p hq_p (fun z => absurd z (by decide)) (fun _ => ?_)
  have iS : (1 - I p 1) * 26 + 25 - nI (f - d) = nI (26 * (1 - m) + (25 - (f - d))) := by rw [hI]; exact ix_s hm (by omega)
  have iB : (1 - I p 1) * 26 + 25 = nI (26 * (1 - m) + 25) := by rw [hI]; exact ix_b hm
  have vS : vp_in ((1 - I p 1) * 26 + 25 - nI (f - d)) 52 := by rw [iS]; exact vp_in_nI (by omega) (by omega)
  have vB : vp_in ((1 - I p 1) * 26 + 25) 52 := by rw [iB]; exact vp_in_nI (by omega) (by omega)
  refine r_0_move_67 F hP hB hk_p hp_p hq_p vS vS ?_
  rw [up1_up1, up1_s, iS, nI_clamp (by omega)]
  have hne := hh.2
  have h3 := bd_dec h2 (k := 26 * (1 - m) + (25 - (f - d))) (by omega) (by rw [eo _ (by omega)]; omega)
  refine r_0_move_90 F hP hB hk_p hp_p hq_p vB vB ?_
  rw [up1_up1, up1_s, iB, nI_clamp (by omega)]
  have hlt := hh.1
  have h4 := bd_inc h3 (k := 26 * (1 - m) + 25) (by omega) (by rw [va_n (by omega), eo _ (by omega)]; have := bl (26 * (1 - m) + 25) (by omega); omega)
  refine fin 1 _ (Or.inr rfl) (by rw [if_pos hh]) (bd_cg h4 (fun k hk => ?_))
  unfold mvB; rw [if_pos (show d < f ∧ ¬ B (26 * (1 - m) + (25 - (f - d))) = 0 from hh), va_n (show 26 * (1 - m) + 25 ≠ 26 * (1 - m) + (25 - (f - d)) by omega), eo 25 (by omega), eo _ (by omega), show B (26 * (1 - m) + (25 - (f - d))) - 1 = 0 by omega]

theorem r_0_unmove_0 {X : Ctx} (F : Fx X cX0_unmove RX0 4 1 0 0) {P O : Nat → Nat → Option Nat} (hP : laP P) {I A : Nat → Nat → Int32} {J : Nat → Nat → Int64} {pl : List Nat} (hB : inB pl) {x1 x2 x3 : Int32} {p : Nat} (hk_p : kC p = 0) (hp_p : p ∈ pl) (hq_p : p + 1 ∈ pl)
    (o_1 : vp_in (((I p 1) * 26) + x2) 52)
    (o_2 : vp_in (((I p 1) * 26) + x2) 52)
    (e_3 : WA X (mC P O I (up1 A (p + 1) (upd (A (p + 1)) (((I p 1) * 26) + x2).toNatClampNeg ((A (p + 1) (((I p 1) * 26) + x2).toNatClampNeg) - 1))) J) pl 0 0 18 [(0, .ref p), (1, .int x1), (2, .int x2), (3, .int x3)] []) :
    WA X (mC P O I A J) pl 0 0 0 [(0, .ref p), (1, .int x1), (2, .int x2), (3, .int x3)] [] := by
  refine a_aload_n F 0 dX0_unmove_0 rfl rfl ?_
  refine a_getr (b := (p + 1)) F fl_0_9 rfl (hp_p) hk_p (laP_bd hP hk_p) dX0_unmove_1 ?_
  refine a_aload_n F 0 dX0_unmove_4 rfl rfl ?_
  refine a_geti F fl_0_25 rfl (hp_p) hk_p dX0_unmove_5 ?_
  refine a_bipush (v := 26) F dX0_unmove_8 (by decide) ?_
  refine a_imul F dX0_unmove_10 ?_
  refine a_iload_n F 2 dX0_unmove_11 rfl rfl ?_
  refine a_iadd F dX0_unmove_12 ?_
  refine a_dup2 F dX0_unmove_13 rfl rfl ?_
  refine a_iald F (hq_p) (k_bd hk_p).1 (show vp_in _ (nC (p + 1)) from (k_bd hk_p).2 ▸ o_1) dX0_unmove_14 ?_
  refine a_iconst (v := 1) F dX0_unmove_15 (by decide) ?_
  refine a_isub F dX0_unmove_16 ?_
  refine a_iast F (hq_p) (k_bd hk_p).1 (show vp_in _ (nC (p + 1)) from (k_bd hk_p).2 ▸ o_2) dX0_unmove_17 ?_
  exact e_3

theorem r_0_unmove_18 {X : Ctx} (F : Fx X cX0_unmove RX0 4 1 0 0) {P O : Nat → Nat → Option Nat} (hP : laP P) {I A : Nat → Nat → Int32} {J : Nat → Nat → Int64} {pl : List Nat} (hB : inB pl) {x1 x2 x3 : Int32} {p : Nat} (hk_p : kC p = 0) (hp_p : p ∈ pl) (hq_p : p + 1 ∈ pl)
    (o_1 : vp_in (((I p 1) * 26) + x1) 52)
    (o_2 : vp_in (((I p 1) * 26) + x1) 52)
    (e_3 : WA X (mC P O I (up1 A (p + 1) (upd (A (p + 1)) (((I p 1) * 26) + x1).toNatClampNeg ((A (p + 1) (((I p 1) * 26) + x1).toNatClampNeg) + 1))) J) pl 0 0 36 [(0, .ref p), (1, .int x1), (2, .int x2), (3, .int x3)] []) :
    WA X (mC P O I A J) pl 0 0 18 [(0, .ref p), (1, .int x1), (2, .int x2), (3, .int x3)] [] := by
  refine a_aload_n F 0 dX0_unmove_18 rfl rfl ?_
  refine a_getr (b := (p + 1)) F fl_0_9 rfl (hp_p) hk_p (laP_bd hP hk_p) dX0_unmove_19 ?_
  refine a_aload_n F 0 dX0_unmove_22 rfl rfl ?_
  refine a_geti F fl_0_25 rfl (hp_p) hk_p dX0_unmove_23 ?_
  refine a_bipush (v := 26) F dX0_unmove_26 (by decide) ?_
  refine a_imul F dX0_unmove_28 ?_
  refine a_iload_n F 1 dX0_unmove_29 rfl rfl ?_
  refine a_iadd F dX0_unmove_30 ?_
  refine a_dup2 F dX0_unmove_31 rfl rfl ?_
  refine a_iald F (hq_p) (k_bd hk_p).1 (show vp_in _ (nC (p + 1)) from (k_bd hk_p).2 ▸ o_1) dX0_unmove_32 ?_
  refine a_iconst (v := 1) F dX0_unmove_33 (by decide) ?_
  refine a_iadd F dX0_unmove_34 ?_
  refine a_iast F (hq_p) (k_bd hk_p).1 (show vp_in _ (nC (p + 1)) from (k_bd hk_p).2 ▸ o_2) dX0_unmove_35 ?_
  exact e_3

theorem r_0_unmove_36 {X : Ctx} (F : Fx X cX0_unmove RX0 4 1 0 0) {P O : Nat → Nat → Option Nat} (hP : laP P) {I A : Nat → Nat → Int32} {J : Nat → Nat → Int64} {pl : List Nat} (hB : inB pl) {x1 x2 x3 : Int32} {p : Nat} (hk_p : kC p = 0) (hp_p : p ∈ pl) (hq_p : p + 1 ∈ pl)
    (e_1 : (x3 = 0) → WA X (mC P O I A J) pl 0 0 84 [(0, .ref p), (1, .int x1), (2, .int x2), (3, .int x3)] [])
    (o_2 : (¬ (x3 = 0)) → vp_in (((1 - (I p 1)) * 26) + 25) 52)
    (o_3 : (¬ (x3 = 0)) → vp_in (((1 - (I p 1)) * 26) + 25) 52)
    (e_4 : (¬ (x3 = 0)) → WA X (mC P O I (up1 A (p + 1) (upd (A (p + 1)) (((1 - (I p 1)) * 26) + 25).toNatClampNeg ((A (p + 1) (((1 - (I p 1)) * 26) + 25).toNatClampNeg) - 1))) J) pl 0 0 61 [(0, .ref p), (1, .int x1), (2, .int x2), (3, .int x3)] []) :
    WA X (mC P O I A J) pl 0 0 36 [(0, .ref p), (1, .int x1), (2, .int x2), (3, .int x3)] [] := by
  refine a_iload_n F 3 dX0_unmove_36 rfl rfl ?_
  refine a_if_eq (tgt := 84) F dX0_unmove_37 (by decide) (fun (c_1 : x3 = 0) => ?_) (fun (c_1 : ¬ (x3 = 0)) => ?_)
  · exact e_1 c_1
  · refine a_aload_n F 0 dX0_unmove_40 rfl rfl ?_
    refine a_getr (b := (p + 1)) F fl_0_9 rfl (hp_p) hk_p (laP_bd hP hk_p) dX0_unmove_41 ?_
    refine a_iconst (v := 1) F dX0_unmove_44 (by decide) ?_
    refine a_aload_n F 0 dX0_unmove_45 rfl rfl ?_
    refine a_geti F fl_0_25 rfl (hp_p) hk_p dX0_unmove_46 ?_
    refine a_isub F dX0_unmove_49 ?_
    refine a_bipush (v := 26) F dX0_unmove_50 (by decide) ?_
    refine a_imul F dX0_unmove_52 ?_
    refine a_bipush (v := 25) F dX0_unmove_53 (by decide) ?_
    refine a_iadd F dX0_unmove_55 ?_
    refine a_dup2 F dX0_unmove_56 rfl rfl ?_
    refine a_iald F (hq_p) (k_bd hk_p).1 (show vp_in _ (nC (p + 1)) from (k_bd hk_p).2 ▸ o_2 c_1) dX0_unmove_57 ?_
    refine a_iconst (v := 1) F dX0_unmove_58 (by decide) ?_
    refine a_isub F dX0_unmove_59 ?_
    refine a_iast F (hq_p) (k_bd hk_p).1 (show vp_in _ (nC (p + 1)) from (k_bd hk_p).2 ▸ o_3 c_1) dX0_unmove_60 ?_
    exact e_4 c_1

theorem r_0_unmove_61 {X : Ctx} (F : Fx X cX0_unmove RX0 4 1 0 0) {P O : Nat → Nat → Option Nat} (hP : laP P) {I A : Nat → Nat → Int32} {J : Nat → Nat → Int64} {pl : List Nat} (hB : inB pl) {x1 x2 x3 : Int32} {p : Nat} (hk_p : kC p = 0) (hp_p : p ∈ pl) (hq_p : p + 1 ∈ pl)
    (o_1 : vp_in ((((1 - (I p 1)) * 26) + 25) - x2) 52)
    (o_2 : vp_in ((((1 - (I p 1)) * 26) + 25) - x2) 52)
    (e_3 : WA X (mC P O I (up1 A (p + 1) (upd (A (p + 1)) ((((1 - (I p 1)) * 26) + 25) - x2).toNatClampNeg ((A (p + 1) ((((1 - (I p 1)) * 26) + 25) - x2).toNatClampNeg) + 1))) J) pl 0 0 84 [(0, .ref p), (1, .int x1), (2, .int x2), (3, .int x3)] []) :
    WA X (mC P O I A J) pl 0 0 61 [(0, .ref p), (1, .int x1), (2, .int x2), (3, .int x3)] [] := by
  refine a_aload_n F 0 dX0_unmove_61 rfl rfl ?_
  refine a_getr (b := (p + 1)) F fl_0_9 rfl (hp_p) hk_p (laP_bd hP hk_p) dX0_unmove_62 ?_
  refine a_iconst (v := 1) F dX0_unmove_65 (by decide) ?_
  refine a_aload_n F 0 dX0_unmove_66 rfl rfl ?_
  refine a_geti F fl_0_25 rfl (hp_p) hk_p dX0_unmove_67 ?_
  refine a_isub F dX0_unmove_70 ?_
  refine a_bipush (v := 26) F dX0_unmove_71 (by decide) ?_
  refine a_imul F dX0_unmove_73 ?_
  refine a_bipush (v := 25) F dX0_unmove_74 (by decide) ?_
  refine a_iadd F dX0_unmove_76 ?_
  refine a_iload_n F 2 dX0_unmove_77 rfl rfl ?_
  refine a_isub F dX0_unmove_78 ?_
  refine a_dup2 F dX0_unmove_79 rfl rfl ?_
  refine a_iald F (hq_p) (k_bd hk_p).1 (show vp_in _ (nC (p + 1)) from (k_bd hk_p).2 ▸ o_1) dX0_unmove_80 ?_
  refine a_iconst (v := 1) F dX0_unmove_81 (by decide) ?_
  refine a_iadd F dX0_unmove_82 ?_
  refine a_iast F (hq_p) (k_bd hk_p).1 (show vp_in _ (nC (p + 1)) from (k_bd hk_p).2 ▸ o_2) dX0_unmove_83 ?_
  exact e_3

theorem r_0_unmove_84 {X : Ctx} (F : Fx X cX0_unmove RX0 4 1 0 0) {Φ : Option Value → HS → List Nat → Prop} (E : Ex X none 0 0 Φ) {P O : Nat → Nat → Option Nat} (hP : laP P) {I A : Nat → Nat → Int32} {J : Nat → Nat → Int64} {pl : List Nat} (hB : inB pl) {x1 x2 x3 : Int32} {p : Nat} (hk_p : kC p = 0) (hp_p : p ∈ pl) (hq_p : p + 1 ∈ pl)
    (e_1 : Φ none (mC P O I A J) pl) :
    WA X (mC P O I A J) pl 0 0 84 [(0, .ref p), (1, .int x1), (2, .int x2), (3, .int x3)] [] := by
  exact a_vret F E dX0_unmove_84 (Nat.le_refl 0) (Nat.le_refl 0) (e_1)

set_option maxRecDepth 10000 in
theorem c_0_unmove (l : Launch) {P O : Nat → Nat → Option Nat} (hP : laP P) (I A : Nat → Nat → Int32) (J : Nat → Nat → Int64) {pl : List Nat} (hB : inB pl) (p : Nat) (hk_p : kC p = 0) (hp_p : p ∈ pl) (hq_p : p + 1 ∈ pl) (f d m : Nat) (B : Nat → Nat) (hf1 : 1 ≤ f) (hf : f ≤ 25) (hd1 : 1 ≤ d) (hm : m ≤ 1) (hI : I p 1 = nI m) (hb : bdR (A (p + 1)) 0 (mvB B m f d)) (hok : okB B) (hc : cmP B m f d) : Con l 1 yX0_unmove cX0_unmove 4 none [.ref p, .int (nI f), .int (nI (f - d)), .int (@ite Int32 (hitP B m f d) (Classical.propDecidable _) 1 0)] (mC P O I A J) pl 0 0 (umQ P O I A J pl p B) := by
  refine Con.of (by decide) (Nat.le_of_ble_eq_true rfl) (fun X hX9 hn9 F E => ?_)
  have bl : ∀ k, k < 52 → mvB B m f d k ≤ 15 := fun k hk => okB_le (mvB_ok hok hm hf1 hf hd1 hc) hk
  have iF : I p 1 * 26 + nI f = nI (26 * m + f) := by rw [hI, ix_a]
  have iT : I p 1 * 26 + nI (f - d) = nI (26 * m + (f - d)) := by rw [hI, ix_a]
  have vF : vp_in (I p 1 * 26 + nI f) 52 := by rw [iF]; exact vp_in_nI (by omega) (by omega)
  have vT : vp_in (I p 1 * 26 + nI (f - d)) 52 := by rw [iT]; exact vp_in_nI (by omega) (by omega)
  have eT := mvB_own (B := B) (m := m) (p := f) (d := d) (t := f - d) hm hd1 hf1 hf (by omega)
  rw [if_neg (by omega), if_pos rfl] at eT
  refine r_0_unmove_0 F hP hB hk_p hp_p hq_p vT vT ?_
  rw [iT, nI_clamp (by omega)]
  have h1 := bd_dec hb (k := 26 * m + (f - d)) (by omega) (by omega)
  refine r_0_unmove_18 F hP hB hk_p hp_p hq_p vF vF ?_
  rw [up1_up1, up1_s, iF, nI_clamp (by omega)]
  have h2 : bdR _ 0 (um1 (mvB B m f d) m f d) := bd_inc h1 (k := 26 * m + f) (by omega) (by rw [va_n (by omega)]; have := bl (26 * m + f) (by omega); omega)
  generalize upd (upd (A (p + 1)) (26 * m + (f - d)) (A (p + 1) (26 * m + (f - d)) - 1)) (26 * m + f) (upd (A (p + 1)) (26 * m + (f - d)) (A (p + 1) (26 * m + (f - d)) - 1) (26 * m + f) + 1) = r2 at h2
  have fin : ∀ r', bdR r' 0 B → WA X (mC P O I (up1 A (p + 1) r') J) pl 0 0 84 [(0, .ref p), (1, .int (nI f)), (2, .int (nI (f - d))), (3, .int (@ite Int32 (hitP B m f d) (Classical.propDecidable _) 1 0))] [] := fun r' hr => r_0_unmove_84 F E hP hB hk_p hp_p hq_p ⟨r', rfl, rfl, rfl, hr⟩
  have iB : (1 - I p 1) * 26 + 25 = nI (26 * (1 - m) + 25) := by rw [hI]; exact ix_b hm
  have vB : vp_in ((1 - I p 1) * 26 + 25) 52 := by rw [iB]; exact vp_in_nI (by omega) (by omega)
  by_cases hh : hitP B m f d
  · have ne : ¬ (@ite Int32 (hitP B m f d) (Classical.propDecidable _) 1 0) = 0 := by rw [if_pos hh]; decide
    refine r_0_unmove_36 F hP hB hk_p hp_p hq_p (fun z => absurd z ne) (fun _ => vB) (fun _ => vB) (fun _ => ?_)
    rw [up1_up1, up1_s, iB, nI_clamp (by omega)]
    have e25 := mvB_opp (B := B) (m := m) (p := f) (d := d) (k := 25) hm hf hd1 (by omega)
    have eS := mvB_opp (B := B) (m := m) (p := f) (d := d) (k := 25 - (f - d)) hm hf hd1 (by omega)
    have hlt := hh.1
    rw [if_pos (show d < f ∧ ¬ B (26 * (1 - m) + (25 - (f - d))) = 0 from hh), if_pos rfl] at e25
    rw [if_pos (show d < f ∧ ¬ B (26 * (1 - m) + (25 - (f - d))) = 0 from hh), if_neg (by omega), if_pos rfl] at eS
    have h3 := bd_dec h2 (k := 26 * (1 - m) + 25) (by omega) (by rw [um_opp hm hf (by omega), e25]; omega)
    have iS : (1 - I p 1) * 26 + 25 - nI (f - d) = nI (26 * (1 - m) + (25 - (f - d))) := by rw [hI]; exact ix_s hm (by omega)
    have vS : vp_in ((1 - I p 1) * 26 + 25 - nI (f - d)) 52 := by rw [iS]; exact vp_in_nI (by omega) (by omega)
    refine r_0_unmove_61 F hP hB hk_p hp_p hq_p vS vS ?_
    rw [up1_up1, up1_s, iS, nI_clamp (by omega)]
    have h4 : bdR _ 0 (um2 (um1 (mvB B m f d) m f d) m f d) := bd_inc h3 (k := 26 * (1 - m) + (25 - (f - d))) (by omega) (by rw [va_n (by omega), um_opp hm hf (by omega), eS]; omega)
    refine fin _ (bd_cg h4 (fun k hk => um_hit hm hd1 hf1 hf hc.1 hh ?_ k hk))
    have := hc.2.2; rw [if_pos hh.1] at this; exact this
  · have eq0 : (@ite Int32 (hitP B m f d) (Classical.propDecidable _) 1 0) = 0 := by rw [if_neg hh]
    refine r_0_unmove_36 F hP hB hk_p hp_p hq_p (fun _ => ?_) (fun z => absurd eq0 z) (fun z => absurd eq0 z) (fun z => absurd eq0 z)
    exact fin _ (bd_cg h2 (fun k hk => um_no hm hd1 hf1 hf hc.1 hh k hk))
