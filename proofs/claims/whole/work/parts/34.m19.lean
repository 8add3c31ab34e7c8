def FrI (I I' : Nat → Nat → Int32) : Prop := ∀ q k, ¬ (q = 0 ∧ k = 16) → I' q k = I q k
theorem FrI.rf (I : Nat → Nat → Int32) : FrI I I := fun _ _ _ => rfl
theorem FrI.tr {I I' I'' : Nat → Nat → Int32} (h : FrI I I') (h' : FrI I' I'') : FrI I I'' := fun q k hk => (h' q k hk).trans (h q k hk)
theorem FrI.at {I I' : Nat → Nat → Int32} (h : FrI I I') {k : Nat} (hk : k ≠ 16) : I' 0 k = I 0 k := h 0 k (fun z => hk z.2)
theorem FrI.up (I : Nat → Nat → Int32) (v : Int32) : FrI I (up2 I 0 16 v) := fun q k hk => by
  by_cases c : q = 0
  · subst c; exact up2_k (fun z => hk ⟨rfl, z⟩)
  · exact up2_p c
def shF (f : Nat → Int32) (i cnt : Nat) : Nat → Int32 := fun q => if i < q ∧ q ≤ cnt then f (q - 1) else f q
theorem sh_0 (f : Nat → Int32) (cnt : Nat) : shF f cnt cnt = f := by funext q; unfold shF; rw [if_neg (by omega)]
theorem sh_s (f : Nat → Int32) (i cnt : Nat) (h : i + 1 ≤ cnt) : upd (shF f (i + 1) cnt) (i + 1) (shF f (i + 1) cnt i) = shF f i cnt := by
  funext q
  by_cases c : q = i + 1
  · subst c; rw [upd_in]; unfold shF; rw [if_neg (by omega), if_pos (by omega)]; rfl
  · rw [upd_out c]; unfold shF
    by_cases c2 : i + 1 < q ∧ q ≤ cnt
    · rw [if_pos c2, if_pos (by omega)]
    · rw [if_neg c2, if_neg (by omega)]
theorem up1_at {α : Type} {f : Nat → Nat → α} {p : Nat} {r : Nat → α} (h : f p = r) : up1 f p r = f := by rw [← h]; exact up1_id f p
theorem up1_3 {α : Type} {f : Nat → Nat → α} {a b c q : Nat} {x y z : Nat → α} (h1 : q ≠ a) (h2 : q ≠ b) (h3 : q ≠ c) : up1 (up1 (up1 f a x) b y) c z q = f q := by rw [up1_p h3, up1_p h2, up1_p h1]
theorem tabR_up {R13 R14 R15 : Nat → Int32} {len cnt k w : Nat} {o : Nat → Nat} {T : Nat → Nat → Nat} {W : Nat → Nat} {B : Nat → Nat} {g : Nat → Int32} (h : tabR R13 R14 R15 len cnt o T W) (hl : len ≤ 4) (hk : k < cnt) (e : ∀ c, c < 52 → B c = T k c) (hg : ∀ j, j < len → g j = nI (wdg w j)) : tabR R13 (segF R14 (4 * o k) len g) R15 len cnt o (upT T k B) (upT W k w) := by
  obtain ⟨h1, h2, h3, h4, h5⟩ := h
  refine ⟨h1, h2, h3, fun i hi => ?_, fun i hi j hj => ?_⟩
  · unfold upT; by_cases c : i = k
    · rw [if_pos c]; subst c; intro q hq; rw [e q hq]; exact h4 i hi q hq
    · rw [if_neg c]; exact h4 i hi
  · unfold upT; by_cases c : i = k
    · rw [if_pos c]; subst c; rw [seg_in hj]; exact hg j hj
    · rw [if_neg c]
      have : o i ≠ o k := fun z => c (h3 i k hi hk z)
      rw [seg_out (by omega)]; exact h5 i hi j hj
theorem tabR_in {R13 R14 R15 : Nat → Int32} {len cnt k w : Nat} {o : Nat → Nat} {T : Nat → Nat → Nat} {W : Nat → Nat} {B : Nat → Nat} {g b : Nat → Int32} (h : tabR R13 R14 R15 len cnt o T W) (hl : len ≤ 4) (hc : cnt < 3200) (hk : k ≤ cnt) (hb : ∀ c, c < 52 → b c = nI (B c) ∧ B c ≤ 30) (hg : ∀ j, j < len → g j = nI (wdg w j)) : tabR (segF R13 (52 * cnt) 52 b) (segF R14 (4 * cnt) len g) (upd (shF R15 k cnt) k (nI cnt)) len (cnt + 1) (inT o k cnt) (inT T k B) (inT W k w) := by
  obtain ⟨h1, h2, h3, h4, h5⟩ := h
  have hoi : ∀ i, i < k → inT o k cnt i = o i := fun i hi => by unfold inT; rw [if_pos hi]
  have hok : inT o k cnt k = cnt := by unfold inT; rw [if_neg (by omega), if_pos rfl]
  have hog : ∀ i, k < i → inT o k cnt i = o (i - 1) := fun i hi => by unfold inT; rw [if_neg (by omega), if_neg (by omega)]
  refine ⟨hc, fun i hi => ?_, fun i j hi hj he => ?_, fun i hi => ?_, fun i hi j hj => ?_⟩
  · rcases Nat.lt_trichotomy i k with c | c | c
    · rw [hoi i c, upd_out (by omega)]; unfold shF; rw [if_neg (by omega)]; have := h2 i (by omega); exact ⟨this.1, by omega⟩
    · subst c; rw [hok, upd_in]; exact ⟨rfl, by omega⟩
    · rw [hog i c, upd_out (by omega)]; unfold shF; rw [if_pos (by omega)]; have := h2 (i - 1) (by omega); exact ⟨this.1, by omega⟩
  · rcases Nat.lt_trichotomy i k with c | c | c <;> rcases Nat.lt_trichotomy j k with c2 | c2 | c2
    · rw [hoi i c, hoi j c2] at he; exact h3 i j (by omega) (by omega) he
    · subst c2; rw [hoi i c, hok] at he; have := (h2 i (by omega)).2; omega
    · rw [hoi i c, hog j c2] at he; have := h3 i (j - 1) (by omega) (by omega) he; omega
    · subst c; rw [hok, hoi j c2] at he; have := (h2 j (by omega)).2; omega
    · omega
    · subst c; rw [hok, hog j c2] at he; have := (h2 (j - 1) (by omega)).2; omega
    · rw [hog i c, hoi j c2] at he; have := h3 (i - 1) j (by omega) (by omega) he; omega
    · subst c2; rw [hog i c, hok] at he; have := (h2 (i - 1) (by omega)).2; omega
    · rw [hog i c, hog j c2] at he; have := h3 (i - 1) (j - 1) (by omega) (by omega) he; omega
  · rcases Nat.lt_trichotomy i k with c | c | c
    · rw [hoi i c, show inT T k B i = T i by unfold inT; rw [if_pos c]]; intro q hq
      have := (h2 i (by omega)).2
      rw [seg_out (by omega)]; exact h4 i (by omega) q hq
    · subst c; rw [hok, show inT T i B i = B by unfold inT; rw [if_neg (by omega), if_pos rfl]]; intro q hq
      rw [seg_in hq]; exact hb q hq
    · rw [hog i c, show inT T k B i = T (i - 1) by unfold inT; rw [if_neg (by omega), if_neg (by omega)]]; intro q hq
      have := (h2 (i - 1) (by omega)).2
      rw [seg_out (by omega)]; exact h4 (i - 1) (by omega) q hq
  · rcases Nat.lt_trichotomy i k with c | c | c
    · rw [hoi i c, show inT W k w i = W i by unfold inT; rw [if_pos c]]
      have := (h2 i (by omega)).2
      rw [seg_out (by omega)]; exact h5 i (by omega) j hj
    · subst c; rw [hok, show inT W i w i = w by unfold inT; rw [if_neg (by omega), if_pos rfl]]
      rw [seg_in hj]; exact hg j hj
    · rw [hog i c, show inT W k w i = W (i - 1) by unfold inT; rw [if_neg (by omega), if_neg (by omega)]]
      have := (h2 (i - 1) (by omega)).2
      rw [seg_out (by omega)]; exact h5 (i - 1) (by omega) j hj
def keepQ (I A : Nat → Nat → Int32) (J : Nat → Nat → Int64) (len m : Nat) (S : (Nat → Nat) → Nat → Prop) : Option Value → HS → List Nat → Prop := fun r σ' pl' => ∃ I' A', r = none ∧ σ' = mS I' A' J ∧ pl' = plM ∧ FrI I I' ∧ (∀ q, q ≠ 13 → q ≠ 14 → q ≠ 15 → A' q = A q) ∧ tabA I' A' len m S

theorem r_12_keep_0 {X : Ctx} (F : Fx X cX12_keep RX12 6 3 0 0) {I A : Nat → Nat → Int32} {J : Nat → Nat → Int64} {x1 : Int32}
    (e_1 : WA X (mS I A J) plM 0 0 2 [(0, .ref 0), (1, .int x1)] [.int x1, .ref 0]) :
    WA X (mS I A J) plM 0 0 0 [(0, .ref 0), (1, .int x1)] [] := by
  refine a_aload_n F 0 dX12_keep_0 rfl rfl ?_
  refine a_iload_n F 1 dX12_keep_1 rfl rfl ?_
  exact e_1

theorem r_12_keep_6 {X : Ctx} (F : Fx X cX12_keep RX12 6 3 0 0) {I A : Nat → Nat → Int32} {J : Nat → Nat → Int64} {x1 x2 : Int32}
    (e_1 : ((I 0 16) ≤ x2) → WA X (mS I A J) plM 0 0 135 [(0, .ref 0), (1, .int x1), (2, .int x2), (3, .int (I 0 16))] [])
    (o_2 : (¬ ((I 0 16) ≤ x2)) → vp_in x2 3200)
    (o_3 : (¬ ((I 0 16) ≤ x2)) → 0 ≤ x1 ∧ x1 ≤ 8)
    (o_4 : (¬ ((I 0 16) ≤ x2)) → 0 ≤ (A 15 x2.toNatClampNeg) ∧ (A 15 x2.toNatClampNeg) < 3200)
    (o_5 : (¬ ((I 0 16) ≤ x2)) → (I 0 8) = 0 ∨ (I 0 8) = 1)
    (e_6 : (¬ ((I 0 16) ≤ x2)) → (¬ (agI (A 13) (A 3) x1 (A 15 x2.toNatClampNeg) (I 0 8)) = 0) → WA X (mS I A J) plM 0 0 135 [(0, .ref 0), (1, .int x1), (2, .int x2), (3, .int (I 0 16))] [])
    (o_7 : (¬ ((I 0 16) ≤ x2)) → ((agI (A 13) (A 3) x1 (A 15 x2.toNatClampNeg) (I 0 8)) = 0) → vp_in x2 3200)
    (e_8 : (¬ ((I 0 16) ≤ x2)) → ((agI (A 13) (A 3) x1 (A 15 x2.toNatClampNeg) (I 0 8)) = 0) → WA X (mS I A J) plM 0 0 38 [(0, .ref 0), (1, .int x1), (2, .int x2), (3, .int (A 15 x2.toNatClampNeg)), (4, .int 0)] []) :
    WA X (mS I A J) plM 0 0 6 [(0, .ref 0), (1, .int x1), (2, .int x2)] [] := by
  refine a_iload_n F 2 dX12_keep_6 rfl rfl ?_
  refine a_aload_n F 0 dX12_keep_7 rfl rfl ?_
  refine a_geti F fl_12_152 rfl (by decide) rfl dX12_keep_8 ?_
  refine a_icmp_ge (tgt := 130) F dX12_keep_11 (by decide) (fun (c_1 : (I 0 16) ≤ x2) => ?_) (fun (c_1 : ¬ ((I 0 16) ≤ x2)) => ?_)
  · refine a_aload_n F 0 dX12_keep_130 rfl rfl ?_
    refine a_geti F fl_12_152 rfl (by decide) rfl dX12_keep_131 ?_
    refine a_istore_n F dX12_keep_134 rfl (by decide) rfl ?_
    refine a_sub [1, 2, 3, 0] rfl ?_
    exact e_1 c_1
  · refine a_aload_n F 0 dX12_keep_14 rfl rfl ?_
    refine a_iload_n F 1 dX12_keep_15 rfl rfl ?_
    refine a_aload_n F 0 dX12_keep_16 rfl rfl ?_
    refine a_getr (b := 15) F fl_12_39 rfl (by decide) rfl rfl dX12_keep_17 ?_
    refine a_iload_n F 2 dX12_keep_20 rfl rfl ?_
    refine a_iald F (by decide) rfl (o_2 c_1) dX12_keep_21 ?_
    refine a_callV (b := 0) (As := [.int x1, .int (A 15 x2.toNatClampNeg)]) (st := []) (ci := 12) F (c_against (xl X) I A J x1 (A 15 x2.toNatClampNeg) (o_3 c_1) (o_4 c_1) (o_5 c_1)) ml_12_214 im_yX12_against se_yX12_against (by decide) (by decide) rfl (by decide) rfl rfl dX12_keep_22 (by decide) (Nat.le_refl 0) (Nat.le_refl 0) (hl_r (by decide) (hl_i (hl_i hl_nil))) hs_nil ?_
    rintro _ _ _ ⟨rfl, rfl, rfl⟩ _
    show WA X (mS I A J) plM 0 0 25 [(0, .ref 0), (1, .int x1), (2, .int x2)] [.int (agI (A 13) (A 3) x1 (A 15 x2.toNatClampNeg) (I 0 8))]
    refine a_if_ne (tgt := 130) F dX12_keep_25 (by decide) (fun (c_2 : ¬ (agI (A 13) (A 3) x1 (A 15 x2.toNatClampNeg) (I 0 8)) = 0) => ?_) (fun (c_2 : (agI (A 13) (A 3) x1 (A 15 x2.toNatClampNeg) (I 0 8)) = 0) => ?_)
    · refine a_aload_n F 0 dX12_keep_130 rfl rfl ?_
      refine a_geti F fl_12_152 rfl (by decide) rfl dX12_keep_131 ?_
      refine a_istore_n F dX12_keep_134 rfl (by decide) rfl ?_
      refine a_sub [1, 2, 3, 0] rfl ?_
      exact e_6 c_1 c_2
    · refine a_aload_n F 0 dX12_keep_28 rfl rfl ?_
      refine a_getr (b := 15) F fl_12_39 rfl (by decide) rfl rfl dX12_keep_29 ?_
      refine a_iload_n F 2 dX12_keep_32 rfl rfl ?_
      refine a_iald F (by decide) rfl (o_7 c_1 c_2) dX12_keep_33 ?_
      refine a_istore_n F dX12_keep_34 rfl (by decide) rfl ?_
      refine a_iconst (v := 0) F dX12_keep_35 (by decide) ?_
      refine a_istore F dX12_keep_36 (by decide) rfl ?_
      refine a_sub [2, 3, 4, 1, 0] rfl ?_
      exact e_8 c_1 c_2

theorem r_12_keep_38 {X : Ctx} (F : Fx X cX12_keep RX12 6 3 0 0) {Φ : Option Value → HS → List Nat → Prop} (E : Ex X none 0 0 Φ) {I A : Nat → Nat → Int32} {J : Nat → Nat → Int64} {x1 x2 x3 x4 : Int32}
    (e_1 : (x1 ≤ x4) → Φ none (mS I A J) plM)
    (o_2 : (¬ (x1 ≤ x4)) → vp_in x4 8)
    (o_3 : (¬ (x1 ≤ x4)) → vp_in ((4 * x3) + x4) 12800)
    (o_4 : (¬ (x1 ≤ x4)) → (¬ (A 4 x4.toNatClampNeg) = (A 14 ((4 * x3) + x4).toNatClampNeg)) → vp_in x4 8)
    (o_5 : (¬ (x1 ≤ x4)) → (¬ (A 4 x4.toNatClampNeg) = (A 14 ((4 * x3) + x4).toNatClampNeg)) → vp_in ((4 * x3) + x4) 12800)
    (e_6 : (¬ (x1 ≤ x4)) → (¬ (A 4 x4.toNatClampNeg) = (A 14 ((4 * x3) + x4).toNatClampNeg)) → ((A 4 x4.toNatClampNeg) ≤ (A 14 ((4 * x3) + x4).toNatClampNeg)) → Φ none (mS I A J) plM)
    (e_7 : (¬ (x1 ≤ x4)) → (¬ (A 4 x4.toNatClampNeg) = (A 14 ((4 * x3) + x4).toNatClampNeg)) → (¬ ((A 4 x4.toNatClampNeg) ≤ (A 14 ((4 * x3) + x4).toNatClampNeg))) → WA X (mS I A J) plM 0 0 92 [(0, .ref 0), (1, .int x1), (2, .int x2), (3, .int x3), (4, .int x4), (5, .int 0)] [])
    (e_8 : (¬ (x1 ≤ x4)) → ((A 4 x4.toNatClampNeg) = (A 14 ((4 * x3) + x4).toNatClampNeg)) → WA X (mS I A J) plM 0 0 38 [(0, .ref 0), (1, .int x1), (2, .int x2), (3, .int x3), (4, .int (x4 + 1))] []) :
    WA X (mS I A J) plM 0 0 38 [(0, .ref 0), (1, .int x1), (2, .int x2), (3, .int x3), (4, .int x4)] [] := by
  refine a_iload F 4 dX12_keep_38 rfl ?_
  refine a_iload_n F 1 dX12_keep_40 rfl rfl ?_
  refine a_icmp_ge (tgt := 129) F dX12_keep_41 (by decide) (fun (c_3 : x1 ≤ x4) => ?_) (fun (c_3 : ¬ (x1 ≤ x4)) => ?_)
  · exact a_vret F E dX12_keep_129 (Nat.le_refl 0) (Nat.le_refl 0) (e_1 c_3)
  · refine a_aload_n F 0 dX12_keep_44 rfl rfl ?_
    refine a_getr (b := 4) F fl_12_20 rfl (by decide) rfl rfl dX12_keep_45 ?_
    refine a_iload F 4 dX12_keep_48 rfl ?_
    refine a_iald F (by decide) rfl (o_2 c_3) dX12_keep_50 ?_
    refine a_aload_n F 0 dX12_keep_51 rfl rfl ?_
    refine a_getr (b := 14) F fl_12_36 rfl (by decide) rfl rfl dX12_keep_52 ?_
    refine a_iconst (v := 4) F dX12_keep_55 (by decide) ?_
    refine a_iload_n F 3 dX12_keep_56 rfl rfl ?_
    refine a_imul F dX12_keep_57 ?_
    refine a_iload F 4 dX12_keep_58 rfl ?_
    refine a_iadd F dX12_keep_60 ?_
    refine a_iald F (by decide) rfl (o_3 c_3) dX12_keep_61 ?_
    refine a_icmp_ne (tgt := 68) F dX12_keep_62 (by decide) (fun (c_4 : ¬ (A 4 x4.toNatClampNeg) = (A 14 ((4 * x3) + x4).toNatClampNeg)) => ?_) (fun (c_4 : (A 4 x4.toNatClampNeg) = (A 14 ((4 * x3) + x4).toNatClampNeg)) => ?_)
    · refine a_aload_n F 0 dX12_keep_68 rfl rfl ?_
      refine a_getr (b := 4) F fl_12_20 rfl (by decide) rfl rfl dX12_keep_69 ?_
      refine a_iload F 4 dX12_keep_72 rfl ?_
      refine a_iald F (by decide) rfl (o_4 c_3 c_4) dX12_keep_74 ?_
      refine a_aload_n F 0 dX12_keep_75 rfl rfl ?_
      refine a_getr (b := 14) F fl_12_36 rfl (by decide) rfl rfl dX12_keep_76 ?_
      refine a_iconst (v := 4) F dX12_keep_79 (by decide) ?_
      refine a_iload_n F 3 dX12_keep_80 rfl rfl ?_
      refine a_imul F dX12_keep_81 ?_
      refine a_iload F 4 dX12_keep_82 rfl ?_
      refine a_iadd F dX12_keep_84 ?_
      refine a_iald F (by decide) rfl (o_5 c_3 c_4) dX12_keep_85 ?_
      refine a_icmp_le (tgt := 122) F dX12_keep_86 (by decide) (fun (c_5 : (A 4 x4.toNatClampNeg) ≤ (A 14 ((4 * x3) + x4).toNatClampNeg)) => ?_) (fun (c_5 : ¬ ((A 4 x4.toNatClampNeg) ≤ (A 14 ((4 * x3) + x4).toNatClampNeg))) => ?_)
      · exact a_vret F E dX12_keep_122 (Nat.le_refl 0) (Nat.le_refl 0) (e_6 c_3 c_4 c_5)
      · refine a_iconst (v := 0) F dX12_keep_89 (by decide) ?_
        refine a_istore F dX12_keep_90 (by decide) rfl ?_
        refine a_sub [1, 2, 3, 4, 5, 0] rfl ?_
        exact e_7 c_3 c_4 c_5
    · refine a_goto (tgt := 123) F dX12_keep_65 (by decide) ?_
      refine a_iinc (v := x4 + 1) F 4 dX12_keep_123 rfl rfl (by decide) rfl ?_
      refine a_goto (tgt := 38) F dX12_keep_126 (by decide) ?_
      refine a_sub [1, 2, 3, 4, 0] rfl ?_
      exact e_8 c_3 c_4

theorem r_12_keep_92 {X : Ctx} (F : Fx X cX12_keep RX12 6 3 0 0) {Φ : Option Value → HS → List Nat → Prop} (E : Ex X none 0 0 Φ) {I A : Nat → Nat → Int32} {J : Nat → Nat → Int64} {x1 x2 x3 x4 x5 : Int32}
    (e_1 : (x1 ≤ x5) → Φ none (mS I A J) plM)
    (o_2 : (¬ (x1 ≤ x5)) → vp_in x5 8)
    (o_3 : (¬ (x1 ≤ x5)) → vp_in ((4 * x3) + x5) 12800)
    (e_4 : (¬ (x1 ≤ x5)) → WA X (mS I (up1 A 14 (upd (A 14) ((4 * x3) + x5).toNatClampNeg (A 4 x5.toNatClampNeg))) J) plM 0 0 92 [(0, .ref 0), (1, .int x1), (2, .int x2), (3, .int x3), (4, .int x4), (5, .int (x5 + 1))] []) :
    WA X (mS I A J) plM 0 0 92 [(0, .ref 0), (1, .int x1), (2, .int x2), (3, .int x3), (4, .int x4), (5, .int x5)] [] := by
  refine a_iload F 5 dX12_keep_92 rfl ?_
  refine a_iload_n F 1 dX12_keep_94 rfl rfl ?_
  refine a_icmp_ge (tgt := 122) F dX12_keep_95 (by decide) (fun (c_6 : x1 ≤ x5) => ?_) (fun (c_6 : ¬ (x1 ≤ x5)) => ?_)
  · exact a_vret F E dX12_keep_122 (Nat.le_refl 0) (Nat.le_refl 0) (e_1 c_6)
  · refine a_aload_n F 0 dX12_keep_98 rfl rfl ?_
    refine a_getr (b := 14) F fl_12_36 rfl (by decide) rfl rfl dX12_keep_99 ?_
    refine a_iconst (v := 4) F dX12_keep_102 (by decide) ?_
    refine a_iload_n F 3 dX12_keep_103 rfl rfl ?_
    refine a_imul F dX12_keep_104 ?_
    refine a_iload F 5 dX12_keep_105 rfl ?_
    refine a_iadd F dX12_keep_107 ?_
    refine a_aload_n F 0 dX12_keep_108 rfl rfl ?_
    refine a_getr (b := 4) F fl_12_20 rfl (by decide) rfl rfl dX12_keep_109 ?_
    refine a_iload F 5 dX12_keep_112 rfl ?_
    refine a_iald F (by decide) rfl (o_2 c_6) dX12_keep_114 ?_
    refine a_iast F (by decide) rfl (o_3 c_6) dX12_keep_115 ?_
    refine a_iinc (v := x5 + 1) F 5 dX12_keep_116 rfl rfl (by decide) rfl ?_
    refine a_goto (tgt := 92) F dX12_keep_119 (by decide) ?_
    refine a_sub [1, 2, 3, 4, 5, 0] rfl ?_
    exact e_4 c_6

theorem r_12_keep_135 {X : Ctx} (F : Fx X cX12_keep RX12 6 3 0 0) {I A : Nat → Nat → Int32} {J : Nat → Nat → Int64} {x1 x2 x3 : Int32}
    (o_1 : (x3 ≤ x2) → vp_in x2 3200)
    (e_2 : (x3 ≤ x2) → WA X (mS I (up1 A 15 (upd (A 15) x2.toNatClampNeg (I 0 16))) J) plM 0 0 172 [(0, .ref 0), (1, .int x1), (2, .int x2), (3, .int 0)] [])
    (o_3 : (¬ (x3 ≤ x2)) → vp_in (x3 - 1) 3200)
    (o_4 : (¬ (x3 ≤ x2)) → vp_in x3 3200)
    (e_5 : (¬ (x3 ≤ x2)) → WA X (mS I (up1 A 15 (upd (A 15) x3.toNatClampNeg (A 15 (x3 - 1).toNatClampNeg))) J) plM 0 0 135 [(0, .ref 0), (1, .int x1), (2, .int x2), (3, .int (x3 + (-1)))] []) :
    WA X (mS I A J) plM 0 0 135 [(0, .ref 0), (1, .int x1), (2, .int x2), (3, .int x3)] [] := by
  refine a_iload_n F 3 dX12_keep_135 rfl rfl ?_
  refine a_iload_n F 2 dX12_keep_136 rfl rfl ?_
  refine a_icmp_le (tgt := 160) F dX12_keep_137 (by decide) (fun (c_7 : x3 ≤ x2) => ?_) (fun (c_7 : ¬ (x3 ≤ x2)) => ?_)
  · refine a_aload_n F 0 dX12_keep_160 rfl rfl ?_
    refine a_getr (b := 15) F fl_12_39 rfl (by decide) rfl rfl dX12_keep_161 ?_
    refine a_iload_n F 2 dX12_keep_164 rfl rfl ?_
    refine a_aload_n F 0 dX12_keep_165 rfl rfl ?_
    refine a_geti F fl_12_152 rfl (by decide) rfl dX12_keep_166 ?_
    refine a_iast F (by decide) rfl (o_1 c_7) dX12_keep_169 ?_
    refine a_iconst (v := 0) F dX12_keep_170 (by decide) ?_
    refine a_istore_n F dX12_keep_171 rfl (by decide) rfl ?_
    refine a_sub [1, 2, 3, 0] rfl ?_
    exact e_2 c_7
  · refine a_aload_n F 0 dX12_keep_140 rfl rfl ?_
    refine a_getr (b := 15) F fl_12_39 rfl (by decide) rfl rfl dX12_keep_141 ?_
    refine a_iload_n F 3 dX12_keep_144 rfl rfl ?_
    refine a_aload_n F 0 dX12_keep_145 rfl rfl ?_
    refine a_getr (b := 15) F fl_12_39 rfl (by decide) rfl rfl dX12_keep_146 ?_
    refine a_iload_n F 3 dX12_keep_149 rfl rfl ?_
    refine a_iconst (v := 1) F dX12_keep_150 (by decide) ?_
    refine a_isub F dX12_keep_151 ?_
    refine a_iald F (by decide) rfl (o_3 c_7) dX12_keep_152 ?_
    refine a_iast F (by decide) rfl (o_4 c_7) dX12_keep_153 ?_
    refine a_iinc (v := x3 + (-1)) F 3 dX12_keep_154 rfl rfl (by decide) rfl ?_
    refine a_goto (tgt := 135) F dX12_keep_157 (by decide) ?_
    refine a_sub [1, 2, 3, 0] rfl ?_
    exact e_5 c_7

theorem r_12_keep_172 {X : Ctx} (F : Fx X cX12_keep RX12 6 3 0 0) {I A : Nat → Nat → Int32} {J : Nat → Nat → Int64} {x1 x2 x3 : Int32}
    (e_1 : (52 ≤ x3) → WA X (mS I A J) plM 0 0 211 [(0, .ref 0), (1, .int x1), (2, .int x2), (3, .int 0)] [])
    (o_2 : (¬ (52 ≤ x3)) → vp_in ((52 * x1) + x3) 468)
    (o_3 : (¬ (52 ≤ x3)) → vp_in ((52 * (I 0 16)) + x3) 166400)
    (e_4 : (¬ (52 ≤ x3)) → WA X (mS I (up1 A 13 (upd (A 13) ((52 * (I 0 16)) + x3).toNatClampNeg (A 3 ((52 * x1) + x3).toNatClampNeg))) J) plM 0 0 172 [(0, .ref 0), (1, .int x1), (2, .int x2), (3, .int (x3 + 1))] []) :
    WA X (mS I A J) plM 0 0 172 [(0, .ref 0), (1, .int x1), (2, .int x2), (3, .int x3)] [] := by
  refine a_iload_n F 3 dX12_keep_172 rfl rfl ?_
  refine a_bipush (v := 52) F dX12_keep_173 (by decide) ?_
  refine a_icmp_ge (tgt := 209) F dX12_keep_175 (by decide) (fun (c_8 : 52 ≤ x3) => ?_) (fun (c_8 : ¬ (52 ≤ x3)) => ?_)
  · refine a_iconst (v := 0) F dX12_keep_209 (by decide) ?_
    refine a_istore_n F dX12_keep_210 rfl (by decide) rfl ?_
    refine a_sub [1, 2, 3, 0] rfl ?_
    exact e_1 c_8
  · refine a_aload_n F 0 dX12_keep_178 rfl rfl ?_
    refine a_getr (b := 13) F fl_12_33 rfl (by decide) rfl rfl dX12_keep_179 ?_
    refine a_bipush (v := 52) F dX12_keep_182 (by decide) ?_
    refine a_aload_n F 0 dX12_keep_184 rfl rfl ?_
    refine a_geti F fl_12_152 rfl (by decide) rfl dX12_keep_185 ?_
    refine a_imul F dX12_keep_188 ?_
    refine a_iload_n F 3 dX12_keep_189 rfl rfl ?_
    refine a_iadd F dX12_keep_190 ?_
    refine a_aload_n F 0 dX12_keep_191 rfl rfl ?_
    refine a_getr (b := 3) F fl_12_17 rfl (by decide) rfl rfl dX12_keep_192 ?_
    refine a_bipush (v := 52) F dX12_keep_195 (by decide) ?_
    refine a_iload_n F 1 dX12_keep_197 rfl rfl ?_
    refine a_imul F dX12_keep_198 ?_
    refine a_iload_n F 3 dX12_keep_199 rfl rfl ?_
    refine a_iadd F dX12_keep_200 ?_
    refine a_iald F (by decide) rfl (o_2 c_8) dX12_keep_201 ?_
    refine a_iast F (by decide) rfl (o_3 c_8) dX12_keep_202 ?_
    refine a_iinc (v := x3 + 1) F 3 dX12_keep_203 rfl rfl (by decide) rfl ?_
    refine a_goto (tgt := 172) F dX12_keep_206 (by decide) ?_
    refine a_sub [1, 2, 3, 0] rfl ?_
    exact e_4 c_8

theorem r_12_keep_211 {X : Ctx} (F : Fx X cX12_keep RX12 6 3 0 0) {Φ : Option Value → HS → List Nat → Prop} (E : Ex X none 0 0 Φ) {I A : Nat → Nat → Int32} {J : Nat → Nat → Int64} {x1 x2 x3 : Int32}
    (e_1 : (x1 ≤ x3) → Φ none (mS (up2 I 0 16 ((I 0 16) + 1)) A J) plM)
    (o_2 : (¬ (x1 ≤ x3)) → vp_in x3 8)
    (o_3 : (¬ (x1 ≤ x3)) → vp_in ((4 * (I 0 16)) + x3) 12800)
    (e_4 : (¬ (x1 ≤ x3)) → WA X (mS I (up1 A 14 (upd (A 14) ((4 * (I 0 16)) + x3).toNatClampNeg (A 4 x3.toNatClampNeg))) J) plM 0 0 211 [(0, .ref 0), (1, .int x1), (2, .int x2), (3, .int (x3 + 1))] []) :
    WA X (mS I A J) plM 0 0 211 [(0, .ref 0), (1, .int x1), (2, .int x2), (3, .int x3)] [] := by
  refine a_iload_n F 3 dX12_keep_211 rfl rfl ?_
  refine a_iload_n F 1 dX12_keep_212 rfl rfl ?_
  refine a_icmp_ge (tgt := 241) F dX12_keep_213 (by decide) (fun (c_9 : x1 ≤ x3) => ?_) (fun (c_9 : ¬ (x1 ≤ x3)) => ?_)
  · refine a_aload_n F 0 dX12_keep_241 rfl rfl ?_
    refine a_dup F dX12_keep_242 rfl ?_
    refine a_geti F fl_12_152 rfl (by decide) rfl dX12_keep_243 ?_
    refine a_iconst (v := 1) F dX12_keep_246 (by decide) ?_
    refine a_iadd F dX12_keep_247 ?_
    refine a_puti F fl_12_152 rfl rfl rfl rfl (by decide) rfl dX12_keep_248 ?_
    exact a_vret F E dX12_keep_251 (Nat.le_refl 0) (Nat.le_refl 0) (e_1 c_9)
  · refine a_aload_n F 0 dX12_keep_216 rfl rfl ?_
    refine a_getr (b := 14) F fl_12_36 rfl (by decide) rfl rfl dX12_keep_217 ?_
    refine a_iconst (v := 4) F dX12_keep_220 (by decide) ?_
    refine a_aload_n F 0 dX12_keep_221 rfl rfl ?_
    refine a_geti F fl_12_152 rfl (by decide) rfl dX12_keep_222 ?_
    refine a_imul F dX12_keep_225 ?_
    refine a_iload_n F 3 dX12_keep_226 rfl rfl ?_
    refine a_iadd F dX12_keep_227 ?_
    refine a_aload_n F 0 dX12_keep_228 rfl rfl ?_
    refine a_getr (b := 4) F fl_12_20 rfl (by decide) rfl rfl dX12_keep_229 ?_
    refine a_iload_n F 3 dX12_keep_232 rfl rfl ?_
    refine a_iald F (by decide) rfl (o_2 c_9) dX12_keep_233 ?_
    refine a_iast F (by decide) rfl (o_3 c_9) dX12_keep_234 ?_
    refine a_iinc (v := x3 + 1) F 3 dX12_keep_235 rfl rfl (by decide) rfl ?_
    refine a_goto (tgt := 211) F dX12_keep_238 (by decide) ?_
    refine a_sub [1, 2, 3, 0] rfl ?_
    exact e_4 c_9

set_option maxRecDepth 10000 in
theorem c_keep (l : Launch) (I A : Nat → Nat → Int32) (J : Nat → Nat → Int64) (a m w : Nat) (B : Nat → Nat) (S : (Nat → Nat) → Nat → Prop) (ha : a ≤ 4) (hm : m ≤ 1) (h8 : I 0 8 = nI m) (hS : dgS a S) (hd : dgB B) (hw : wOK a w) (hb : ∀ cnt T W, tabS m S cnt T W → cnt < 3200) (hB : bdR (A 3) (52 * a) B) (hg : ∀ j, j < a → A 4 j = nI (wdg w j)) (ht : tabA I A a m S) : Con l 3 yX12_keep cX12_keep 6 none [.ref 0, .int (nI a)] (mS I A J) plM 0 0 (keepQ I A J a m (addS S B w)) := by
  refine Con.of (by decide) (Nat.le_of_ble_eq_true rfl) (fun X hX9 hn9 F E => ?_)
  obtain ⟨cnt, o, T, W, h16, hR, hT⟩ := ht
  obtain ⟨r1, r2, r3, r4, r5⟩ := id hR
  have hc := hb _ _ _ hT
  have h8' : I 0 8 = 0 ∨ I 0 8 = 1 := by rw [h8]; rcases (show m = 0 ∨ m = 1 by omega) with rfl | rfl <;> decide
  have ha' : 0 ≤ nI a ∧ nI a ≤ 8 := ⟨nI_pos' (by omega), (nI_len 8 (by omega) (by omega)).mpr (by omega)⟩
  have hle : ∀ {i j : Nat}, i ≤ 4000 → j ≤ 4000 → (nI i ≤ nI j ↔ i ≤ j) := fun h1 h2 => nI_leI (by omega) (by omega)
  -- a place in the table is taken
  have ins : ∀ k, k ≤ cnt → (∀ i, i < k → key m B < key m (T i)) → (∀ i, k ≤ i → i < cnt → key m (T i) < key m B) → WA X (mS I A J) plM 0 0 135 [(0, .ref 0), (1, .int (nI a)), (2, .int (nI k)), (3, .int (I 0 16))] [] := by
    intro k hk hk1 hk2
    have l3 : ∀ f i, i + f = a → WA X (mS I (up1 (up1 (up1 A 15 (upd (shF (A 15) k cnt) k (nI cnt))) 13 (segF (A 13) (52 * cnt) 52 (fun c => A 3 (52 * a + c)))) 14 (segF (A 14) (4 * cnt) i (A 4))) J) plM 0 0 211 [(0, .ref 0), (1, .int (nI a)), (2, .int (nI k)), (3, .int (nI i))] [] := by
      intro f
      induction f with
      | zero =>
        intro i hi
        obtain rfl : i = a := by omega
        have h := (hle (i := i) (j := i) (by omega) (by omega)).mpr (Nat.le_refl _)
        refine r_12_keep_211 F E (fun _ => ?_) (fun z => absurd h z) (fun z => absurd h z) (fun z => absurd h z)
        refine ⟨_, _, rfl, rfl, rfl, FrI.up I _, fun q h1 h2 h3 => up1_3 h3 h1 h2, cnt + 1, inT o k cnt, inT T k B, inT W k w, by rw [up2_s, h16, nI_1], ?_, tabS_in hT hk hk1 hk2⟩
        rw [show up1 (up1 (up1 A 15 (upd (shF (A 15) k cnt) k (nI cnt))) 13 (segF (A 13) (52 * cnt) 52 (fun c => A 3 (52 * i + c)))) 14 (segF (A 14) (4 * cnt) i (A 4)) 13 = segF (A 13) (52 * cnt) 52 (fun c => A 3 (52 * i + c)) by rw [up1_p (by decide), up1_s], up1_s, show up1 (up1 (up1 A 15 (upd (shF (A 15) k cnt) k (nI cnt))) 13 (segF (A 13) (52 * cnt) 52 (fun c => A 3 (52 * i + c)))) 14 (segF (A 14) (4 * cnt) i (A 4)) 15 = upd (shF (A 15) k cnt) k (nI cnt) by rw [up1_p (by decide), up1_p (by decide), up1_s]]
        exact tabR_in hR ha hc hk (fun c hc => hB c hc) hg
      | succ f ih =>
        intro i hi
        have h : ¬ nI a ≤ nI i := fun z => by have := (hle (by omega) (by omega)).mp z; omega
        have e1 : 4 * I 0 16 + nI i = nI (4 * cnt + i) := by rw [h16, lit 4, pk_mul, nI_add]
        refine r_12_keep_211 F E (fun z => absurd z h) (fun _ => vp_in_nI (by omega) (by omega)) (fun _ => by rw [e1]; exact vp_in_nI (by omega) (by omega)) (fun _ => ?_)
        rw [e1, nI_clamp (by omega), nI_clamp (by omega), nI_1, up1_s, up1_3 (by decide) (by decide) (by decide), up1_up1, seg_s]
        exact ih (i + 1) (by omega)
    have l2 : ∀ f i, i + f = 52 → WA X (mS I (up1 (up1 A 15 (upd (shF (A 15) k cnt) k (nI cnt))) 13 (segF (A 13) (52 * cnt) i (fun c => A 3 (52 * a + c)))) J) plM 0 0 172 [(0, .ref 0), (1, .int (nI a)), (2, .int (nI k)), (3, .int (nI i))] [] := by
      intro f
      induction f with
      | zero =>
        intro i hi
        obtain rfl : i = 52 := by omega
        have h := (hle (i := 52) (j := 52) (by omega) (by omega)).mpr (Nat.le_refl _)
        refine r_12_keep_172 F (fun _ => ?_) (fun z => absurd h z) (fun z => absurd h z) (fun z => absurd h z)
        have := l3 a 0 (by omega)
        rw [seg_0, show up1 (up1 (up1 A 15 (upd (shF (A 15) k cnt) k (nI cnt))) 13 (segF (A 13) (52 * cnt) 52 (fun c => A 3 (52 * a + c)))) 14 (A 14) = up1 (up1 A 15 (upd (shF (A 15) k cnt) k (nI cnt))) 13 (segF (A 13) (52 * cnt) 52 (fun c => A 3 (52 * a + c))) from up1_at (by rw [up1_p (by decide), up1_p (by decide)])] at this
        exact this
      | succ f ih =>
        intro i hi
        have h : ¬ (52 : Int32) ≤ nI i := nI_ge (b := 52) (by omega) (by omega)
        have e1 : 52 * I 0 16 + nI i = nI (52 * cnt + i) := by rw [h16, lit 52, pk_mul, nI_add]
        have e2 : 52 * nI a + nI i = nI (52 * a + i) := by rw [lit 52, pk_mul, nI_add]
        refine r_12_keep_172 F (fun z => absurd z h) (fun _ => by rw [e2]; exact vp_in_nI (by omega) (by omega)) (fun _ => by rw [e1]; exact vp_in_nI (by omega) (by omega)) (fun _ => ?_)
        rw [e1, e2, nI_clamp (by omega), nI_clamp (by omega), nI_1, up1_p (show (3 : Nat) ≠ 13 by decide), up1_p (show (3 : Nat) ≠ 15 by decide), up1_s, up1_up1, seg_s (g := fun c => A 3 (52 * a + c))]
        exact ih (i + 1) (by omega)
    have l1 : ∀ f i, k + f = i → i ≤ cnt → WA X (mS I (up1 A 15 (shF (A 15) i cnt)) J) plM 0 0 135 [(0, .ref 0), (1, .int (nI a)), (2, .int (nI k)), (3, .int (nI i))] [] := by
      intro f
      induction f with
      | zero =>
        intro i hi hi2
        obtain rfl : i = k := by omega
        have h := (hle (i := i) (j := i) (by omega) (by omega)).mpr (Nat.le_refl _)
        refine r_12_keep_135 F (fun _ => vp_in_nI (by omega) (by omega)) (fun _ => ?_) (fun z => absurd h z) (fun z => absurd h z) (fun z => absurd h z)
        rw [nI_clamp (by omega), up1_s, up1_up1, h16]
        have := l2 52 0 (by omega)
        rw [seg_0, show up1 (up1 A 15 (upd (shF (A 15) i cnt) i (nI cnt))) 13 (A 13) = up1 A 15 (upd (shF (A 15) i cnt) i (nI cnt)) from up1_at (by rw [up1_p (by decide)])] at this
        exact this
      | succ f ih =>
        intro i hi hi2
        obtain ⟨j, rfl⟩ : ∃ j, i = j + 1 := ⟨i - 1, by omega⟩
        have h : ¬ nI (j + 1) ≤ nI k := fun z => by have := (hle (by omega) (by omega)).mp z; omega
        refine r_12_keep_135 F (fun z => absurd z h) (fun z => absurd z h) (fun _ => by rw [nI_pred]; exact vp_in_nI (by omega) (by omega)) (fun _ => vp_in_nI (by omega) (by omega)) (fun _ => ?_)
        rw [nI_pred, nI_clamp (by omega), nI_clamp (by omega), nI_m1, up1_s, up1_up1, sh_s _ _ _ hi2]
        exact ih j (by omega) (by omega)
    have := l1 (cnt - k) cnt (by omega) (Nat.le_refl _)
    rw [sh_0, up1_id] at this
    rw [h16]; exact this
  refine r_12_keep_0 F ?_
  refine a_callV (b := 0) (As := [.int (nI a)]) (st := []) (ci := 12) F (c_find (xl X) I A J a m cnt o T B (by omega) hm h8 h16 r1 r2 (fun i hi => ⟨(hS _ _ (hT.1 i hi)).1, r4 i hi⟩) hT.2.2 hd hB) ml_12_217 im_yX12_find se_yX12_find (by decide) (by decide) rfl (by decide) rfl rfl dX12_keep_2 (by decide) (Nat.le_refl 0) (Nat.le_refl 0) (hl_r (by decide) (hl_i hl_nil)) hs_nil ?_
  rintro _ _ _ ⟨k, ⟨rfl, rfl, rfl⟩, hk, hk1, hk2⟩ _
  show WA X (mS I A J) plM 0 0 5 [(0, .ref 0), (1, .int (nI a))] [.int (nI k)]
  refine a_istore_n F dX12_keep_5 rfl (by decide) rfl ?_
  refine a_sub [1, 2, 0] rfl ?_
  have lk : (I 0 16 ≤ nI k) ↔ cnt ≤ k := by rw [h16]; exact hle (by omega) (by omega)
  by_cases c : cnt ≤ k
  · exact r_12_keep_6 F (fun _ => ins k hk hk1 (fun i h1 h2 => by omega)) (fun h => absurd (lk.mpr c) h) (fun h => absurd (lk.mpr c) h) (fun h => absurd (lk.mpr c) h) (fun h => absurd (lk.mpr c) h) (fun h => absurd (lk.mpr c) h) (fun h => absurd (lk.mpr c) h) (fun h => absurd (lk.mpr c) h)
  · have hkc : k < cnt := by omega
    have ok := r2 k hkc
    have ag := ag_key (R := A 13) (L := A 3) (a := a) (r := o k) (m := m) (by omega) (by omega) hm (hS _ _ (hT.1 k hkc)).1 hd (r4 k hkc) hB
    refine r_12_keep_6 F (fun h => absurd (lk.mp h) c) (fun _ => vp_in_nI (by omega) (by omega)) (fun _ => ha') (fun _ => by rw [nI_clamp (by omega), ok.1]; exact ⟨nI_pos' (by omega), (nI_ltn 3200 (by omega) (by omega)).mpr (by omega)⟩) (fun _ => h8') (fun _ => ?_) (fun _ _ => vp_in_nI (by omega) (by omega)) (fun _ => ?_)
    · rw [nI_clamp (by omega), ok.1, h8, ag.1]; intro hne
      refine ins k hk hk1 (fun i h1 h2 => ?_)
      rcases Nat.lt_or_ge k i with c2 | c2
      · exact Nat.lt_of_lt_of_le (hT.2.2 k i c2 h2) (hk2 k (Nat.le_refl _) hkc)
      · obtain rfl : i = k := by omega
        have := hk2 i (Nat.le_refl _) hkc; omega
    · rw [nI_clamp (by omega), ok.1, h8, ag.1]; intro heq
      have wk := (hS _ _ (hT.1 k hkc)).2
      have stay : w ≤ W k → keepQ I A J a m (addS S B w) none (mS I A J) plM := fun h => ⟨I, A, rfl, rfl, rfl, FrI.rf I, fun _ _ _ _ => rfl, cnt, o, T, W, h16, hR, tabS_same hT hkc heq.symm h⟩
      have cp : W k < w → ∀ f i (x4 : Int32), i + f = a → WA X (mS I (up1 A 14 (segF (A 14) (4 * o k) i (A 4))) J) plM 0 0 92 [(0, .ref 0), (1, .int (nI a)), (2, .int (nI k)), (3, .int (nI (o k))), (4, .int x4), (5, .int (nI i))] [] := by
        intro hlt f
        induction f with
        | zero =>
          intro i x4 hi
          obtain rfl : i = a := by omega
          have h := (hle (i := i) (j := i) (by omega) (by omega)).mpr (Nat.le_refl _)
          refine r_12_keep_92 F E (fun _ => ?_) (fun z => absurd h z) (fun z => absurd h z) (fun z => absurd h z)
          refine ⟨I, _, rfl, rfl, rfl, FrI.rf I, fun q h1 h2 h3 => up1_p h2, cnt, o, upT T k B, upT W k w, h16, ?_, tabS_up hT hkc heq.symm (Nat.le_of_lt hlt)⟩
          rw [up1_p (by decide), up1_s, up1_p (by decide)]
          exact tabR_up hR ha hkc (key_inj hm hd (hS _ _ (hT.1 k hkc)).1 heq.symm) hg
        | succ f ih =>
          intro i x4 hi
          have h : ¬ nI a ≤ nI i := fun z => by have := (hle (by omega) (by omega)).mp z; omega
          have e1 : 4 * nI (o k) + nI i = nI (4 * o k + i) := by rw [lit 4, pk_mul, nI_add]
          refine r_12_keep_92 F E (fun z => absurd z h) (fun _ => vp_in_nI (by omega) (by omega)) (fun _ => by rw [e1]; exact vp_in_nI (by omega) (by omega)) (fun _ => ?_)
          rw [e1, nI_clamp (by omega), nI_clamp (by omega), nI_1, up1_s, up1_p (by decide), up1_up1, seg_s]
          exact ih (i + 1) x4 (by omega)
      have cmp : ∀ f i, i + f = a → (∀ j, j < i → wdg w j = wdg (W k) j) → WA X (mS I A J) plM 0 0 38 [(0, .ref 0), (1, .int (nI a)), (2, .int (nI k)), (3, .int (nI (o k))), (4, .int (nI i))] [] := by
        intro f
        induction f with
        | zero =>
          intro i hi he
          obtain rfl : i = a := by omega
          have h := (hle (i := i) (j := i) (by omega) (by omega)).mpr (Nat.le_refl _)
          exact r_12_keep_38 F E (fun _ => stay (Nat.le_of_eq (w_eq ha hw wk he))) (fun z => absurd h z) (fun z => absurd h z) (fun z => absurd h z) (fun z => absurd h z) (fun z => absurd h z) (fun z => absurd h z) (fun z => absurd h z)
        | succ f ih =>
          intro i hi he
          have h : ¬ nI a ≤ nI i := fun z => by have := (hle (by omega) (by omega)).mp z; omega
          have e1 : 4 * nI (o k) + nI i = nI (4 * o k + i) := by rw [lit 4, pk_mul, nI_add]
          have v1 : vp_in (nI i) 8 := vp_in_nI (by omega) (by omega)
          have v2 : vp_in (4 * nI (o k) + nI i) 12800 := by rw [e1]; exact vp_in_nI (by omega) (by omega)
          have d1 := wdg_lt (w := w) (j := i)
          have d2 := wdg_lt (w := W k) (j := i)
          refine r_12_keep_38 F E (fun z => absurd z h) (fun _ => v1) (fun _ => v2) (fun _ _ => v1) (fun _ _ => v2) (fun _ => ?_) (fun _ => ?_) (fun _ => ?_)
          all_goals rw [e1, nI_clamp (by omega), nI_clamp (by omega), hg i (by omega), r5 k hkc i (by omega), nI_eq (by omega) (by omega)]
          · rw [nI_leI (by omega) (by omega)]; intro c1 c2
            exact stay (Nat.le_of_lt (w_gt (i := i) (by omega) wk.1 hw.1 (fun j hj => (he j hj).symm) (by omega)))
          · rw [nI_leI (by omega) (by omega)]; intro c1 c2
            have := cp (w_gt (i := i) (by omega) hw.1 wk.1 he (by omega)) a 0 (nI i) (by omega)
            rw [seg_0, up1_id] at this; exact this
          · intro c1
            rw [nI_1]
            refine ih (i + 1) (by omega) (fun j hj => ?_)
            rcases Nat.lt_or_ge j i with c2 | c2
            · exact he j c2
            · obtain rfl : j = i := by omega
              exact c1
      exact cmp a 0 (by omega) (fun j hj => by omega)
