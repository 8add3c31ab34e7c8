/-! PARSING BY PLACES OF TOKENS -/
def nxP (T : Nat → Int32) (n p : Nat) : Nat := endT bBl T n (tkE T n p)
def tkN (T : Nat → Int32) (n p : Nat) : Nat := (tkV T n p).toNatClampNeg
/-- the token at place p is the current one -/
def AtP (I : Nat → Nat → Int32) (T : Nat → Int32) (n p : Nat) : Prop := n ≤ 400 ∧ p ≤ n ∧ I 0 36 = nI n ∧ I 0 37 = nI (tkE T n p) ∧ I 0 38 = tkS T n p ∧ I 0 39 = tkV T n p ∧ I 0 40 = nI p
def Fr (I I' : Nat → Nat → Int32) : Prop := ∀ k, k < 37 ∨ 42 < k → I' 0 k = I 0 k
theorem Fr.rf (I : Nat → Nat → Int32) : Fr I I := fun _ _ => rfl
theorem Fr.tr {I I' I2 : Nat → Nat → Int32} (h : Fr I I') (h2 : Fr I' I2) : Fr I I2 := fun k hk => (h2 k hk).trans (h k hk)
theorem tk_lt {T : Nat → Int32} {n p : Nat} (h : ¬ tkS T n p = 0) : p < n := by
  unfold tkS at h; by_cases hp : n ≤ p
  · simp [hp] at h
  · omega
theorem tkE_b {T : Nat → Int32} {n p : Nat} (h : p < n) : p < tkE T n p ∧ tkE T n p ≤ n := by
  unfold tkE; rw [if_neg (by omega)]
  split
  · rename_i hd; rw [endT_t h hd]; have := endT_b (P := bDg) (T := T) (n := n) (n - (p + 1)) (p + 1) (Nat.le_refl _) (by omega); omega
  · split
    · rename_i hd; rw [endT_t h hd]; have := endT_b (P := bLt) (T := T) (n := n) (n - (p + 1)) (p + 1) (Nat.le_refl _) (by omega); omega
    · omega
theorem nxP_b {T : Nat → Int32} {n p : Nat} (h : p < n) : p < nxP T n p ∧ nxP T n p ≤ n := by
  have h1 := tkE_b (T := T) h
  have h2 := endT_b (P := bBl) (T := T) (n := n) (n - tkE T n p) (tkE T n p) (Nat.le_refl _) h1.2
  unfold nxP; omega
theorem AtP.ok {I : Nat → Nat → Int32} {T : Nat → Int32} {n p : Nat} (h : AtP I T n p) (hp : p < n) : okT I := ⟨n, tkE T n p, h.1, (tkE_b hp).2, h.2.2.1, h.2.2.2.1⟩
theorem AtP.go {I A : Nat → Nat → Int32} {n p : Nat} (h : AtP I (A 34) n p) (hp : p < n) : AtP (gonI I A) (A 34) n (nxP (A 34) n p) := by
  obtain ⟨h1, h2, h36, h37, h38, h39, h40⟩ := h
  have hb := tkE_b (T := A 34) hp
  have e1 : (I 0 36).toNatClampNeg = n := by rw [h36]; exact nI_clamp (by omega)
  have e2 : (I 0 37).toNatClampNeg = tkE (A 34) n p := by rw [h37]; exact nI_clamp (by omega)
  unfold gonI; rw [e1, e2]
  exact ⟨h1, (nxP_b hp).2, h36, rfl, rfl, rfl, rfl⟩
theorem gon_k {I A : Nat → Nat → Int32} {k : Nat} (h : k < 37 ∨ 40 < k) : gonI I A 0 k = I 0 k := by
  unfold gonI goI tokI
  rw [up2_k (by omega), up2_k (by omega), up2_k (by omega), up2_k (by omega)]
theorem gon_fr (I A : Nat → Nat → Int32) : Fr I (gonI I A) := fun k hk => gon_k (by omega)
theorem gon_A {I A A' : Nat → Nat → Int32} (h : A' 34 = A 34) : gonI I A' = gonI I A := by unfold gonI; rw [h]
theorem wrong_fr (I : Nat → Nat → Int32) (f p : Int32) : Fr I (wrongI I f p) := fun k hk => by
  unfold wrongI; split
  · rw [up2_k (by omega), up2_k (by omega)]
  · rfl
theorem wrong_0 {I : Nat → Nat → Int32} {f p : Int32} (h : I 0 41 = 0) : wrongI I f p 0 41 = f ∧ wrongI I f p 0 42 = p := by
  unfold wrongI; rw [if_pos h]; exact ⟨by rw [up2_k (by decide), up2_s], up2_s⟩
theorem wrong_d {I : Nat → Nat → Int32} {f p : Int32} (h : ¬ I 0 41 = 0) : wrongI I f p = I := by unfold wrongI; rw [if_neg h]
theorem need_d {I A : Nat → Nat → Int32} {c : Int32} (h : ¬ I 0 41 = 0) : needI I A c = I := by unfold needI; rw [if_neg (fun z => h z.1), wrong_d h]
theorem num_d {I : Nat → Nat → Int32} {a b : Int32} (h : ¬ I 0 41 = 0) : numI I a b = I := by unfold numI; rw [if_pos h]
theorem need_t {I A : Nat → Nat → Int32} {c : Int32} (h : I 0 41 = 0) (h1 : I 0 38 = 4) (h2 : I 0 39 = c) : needI I A c = gonI I A := by unfold needI; rw [if_pos ⟨h, h1, h2⟩]
theorem need_f {I A : Nat → Nat → Int32} {c : Int32} (h1 : ¬ (I 0 38 = 4 ∧ I 0 39 = c)) : needI I A c = wrongI I 1 (I 0 40) := by unfold needI; rw [if_neg (fun z => h1 z.2)]
theorem num_1 {I : Nat → Nat → Int32} {a b : Int32} (h : I 0 41 = 0) (h1 : ¬ I 0 38 = 2) : numI I a b = wrongI I 1 (I 0 40) := by unfold numI; rw [if_neg (fun z => z h), if_pos h1]
theorem num_2 {I : Nat → Nat → Int32} {a b : Int32} (h : I 0 41 = 0) (h1 : I 0 38 = 2) (h2 : I 0 39 < a ∨ b < I 0 39) : numI I a b = wrongI I 2 (I 0 40) := by unfold numI; rw [if_neg (fun z => z h), if_neg (fun z => z h1), if_pos h2]
theorem num_t {I : Nat → Nat → Int32} {a b : Int32} (h : I 0 41 = 0) (h1 : I 0 38 = 2) (h2 : ¬ (I 0 39 < a ∨ b < I 0 39)) : numI I a b = I := by unfold numI; rw [if_neg (fun z => z h), if_neg (fun z => z h1), if_neg h2]
/-- one text of stacks, from the token at p: a FAULT and its place, or the place behind and the men read -/
def stkF (T : Nat → Int32) (n pl : Nat) : Nat → Nat → (Nat → Nat) → Nat → Except (Nat × Nat) (Nat × (Nat → Nat))
  | 0, _, rd, p => .ok (p, rd)
  | f + 1, all, rd, p =>
    if ¬ tkS T n p = 2 then .error (1, p)
    else if tkV T n p < 1 ∨ 25 < tkV T n p then .error (2, p)
    else if 0 < rd (26 * pl + tkN T n p) then .error (3, p)
    else if pl = 1 ∧ tkN T n p < 25 ∧ 0 < rd (25 - tkN T n p) then .error (5, p)
    else if ¬ (tkS T n (nxP T n p) = 4 ∧ tkV T n (nxP T n p) = 58) then .error (1, nxP T n p)
    else if ¬ tkS T n (nxP T n (nxP T n p)) = 2 then .error (1, nxP T n (nxP T n p))
    else if tkV T n (nxP T n (nxP T n p)) < 1 ∨ 15 < tkV T n (nxP T n (nxP T n p)) then .error (2, nxP T n (nxP T n p))
    else if 15 < all + tkN T n (nxP T n (nxP T n p)) then .error (4, nxP T n (nxP T n p))
    else if tkS T n (nxP T n (nxP T n (nxP T n p))) = 4 ∧ tkV T n (nxP T n (nxP T n (nxP T n p))) = 44 then stkF T n pl f (all + tkN T n (nxP T n (nxP T n p))) (va_up rd (26 * pl + tkN T n p) (tkN T n (nxP T n (nxP T n p)))) (nxP T n (nxP T n (nxP T n (nxP T n p))))
    else .ok (nxP T n (nxP T n (nxP T n p)), va_up rd (26 * pl + tkN T n p) (tkN T n (nxP T n (nxP T n p))))
def stkT (T : Nat → Int32) (n pl : Nat) (rd : Nat → Nat) (p : Nat) : Except (Nat × Nat) (Nat × (Nat → Nat)) := if tkS T n p = 4 ∧ tkV T n p = 59 then .ok (p, rd) else stkF T n pl (n + 1) 0 rd p
def rdRow (r : Nat → Int32) (rd : Nat → Nat) : Prop := ∀ k, k < 52 → r k = nI (rd k) ∧ rd k ≤ 15
/-- what is left behind a piece of a text -/
def stkQ (I A : Nat → Nat → Int32) (J : Nat → Nat → Int64) (n : Nat) (res : Except (Nat × Nat) (Nat × (Nat → Nat))) : Option Value → HS → List Nat → Prop := fun r σ' pl' => r = none ∧ pl' = plM ∧ ∃ I' A', σ' = mS I' A' J ∧ Fr I I' ∧ (∀ q, q ≠ 43 → A' q = A q) ∧
  match res with
  | .error fp => fp.1 ≠ 0 ∧ fp.1 < 10 ∧ fp.2 ≤ n ∧ I' 0 41 = nI fp.1 ∧ I' 0 42 = nI fp.2
  | .ok pr => I' 0 41 = 0 ∧ I' 0 42 = I 0 42 ∧ AtP I' (A 34) n pr.1 ∧ rdRow (A' 43) pr.2

theorem r_12_stacks_0 {X : Ctx} (F : Fx X cX12_stacks RX12 5 4 0 0) {Φ : Option Value → HS → List Nat → Prop} (E : Ex X none 0 0 Φ) {I A : Nat → Nat → Int32} {J : Nat → Nat → Int64} {x1 : Int32}
    (e_1 : ((I 0 41) = 0) → ((I 0 41) = 0 ∧ (I 0 38) = 4 ∧ (I 0 39) = (59 : Int32)) → Φ none (mS I A J) plM)
    (e_2 : ((I 0 41) = 0) → (¬ ((I 0 41) = 0 ∧ (I 0 38) = 4 ∧ (I 0 39) = (59 : Int32))) → WA X (mS I A J) plM 0 0 21 [(0, .ref 0), (1, .int x1), (2, .int 0), (3, .int 1)] [])
    (e_3 : (¬ ((I 0 41) = 0)) → Φ none (mS I A J) plM) :
    WA X (mS I A J) plM 0 0 0 [(0, .ref 0), (1, .int x1)] [] := by
  refine a_aload_n F 0 dX12_stacks_0 rfl rfl ?_
  refine a_callV (b := 0) (As := []) (st := []) (ci := 12) F (c_fine (xl X) I A J ) ml_12_310 im_yX12_fine se_yX12_fine (by decide) (by decide) rfl (by decide) rfl rfl dX12_stacks_1 (by decide) (Nat.le_refl 0) (Nat.le_refl 0) (hl_r (by decide) (hl_i hl_nil)) hs_nil ?_
  rintro _ _ _ ⟨rfl, rfl, rfl⟩ _
  show WA X (mS I A J) plM 0 0 4 [(0, .ref 0), (1, .int x1)] [.int (if (I 0 41) = 0 then 1 else 0)]
  refine a_ite (fun (c_1 : (I 0 41) = 0) => ?_) (fun (c_1 : ¬ ((I 0 41) = 0)) => ?_)
  · refine a_if_eq (tgt := 16) F dX12_stacks_4 (by decide) (fun (c_2 : (1 : Int32) = 0) => ?_) (fun (c_2 : ¬ ((1 : Int32) = 0)) => ?_)
    · exact absurd c_2 (by decide)
    · refine a_aload_n F 0 dX12_stacks_7 rfl rfl ?_
      refine a_bipush (v := 59) F dX12_stacks_8 (by decide) ?_
      refine a_callV (b := 0) (As := [.int 59]) (st := []) (ci := 12) F (c_is (xl X) I A J 59) ml_12_313 im_yX12_is se_yX12_is (by decide) (by decide) rfl (by decide) rfl rfl dX12_stacks_10 (by decide) (Nat.le_refl 0) (Nat.le_refl 0) (hl_r (by decide) (hl_i hl_nil)) hs_nil ?_
      rintro _ _ _ ⟨rfl, rfl, rfl⟩ _
      show WA X (mS I A J) plM 0 0 13 [(0, .ref 0), (1, .int x1)] [.int (if (I 0 41) = 0 ∧ (I 0 38) = 4 ∧ (I 0 39) = (59 : Int32) then 1 else 0)]
      refine a_ite (fun (c_3 : (I 0 41) = 0 ∧ (I 0 38) = 4 ∧ (I 0 39) = (59 : Int32)) => ?_) (fun (c_3 : ¬ ((I 0 41) = 0 ∧ (I 0 38) = 4 ∧ (I 0 39) = (59 : Int32))) => ?_)
      · refine a_if_eq (tgt := 17) F dX12_stacks_13 (by decide) (fun (c_4 : (1 : Int32) = 0) => ?_) (fun (c_4 : ¬ ((1 : Int32) = 0)) => ?_)
        · exact absurd c_4 (by decide)
        · exact a_vret F E dX12_stacks_16 (Nat.le_refl 0) (Nat.le_refl 0) (e_1 c_1 c_3)
      · refine a_if_eq (tgt := 17) F dX12_stacks_13 (by decide) (fun (c_5 : (0 : Int32) = 0) => ?_) (fun (c_5 : ¬ ((0 : Int32) = 0)) => ?_)
        · refine a_iconst (v := 0) F dX12_stacks_17 (by decide) ?_
          refine a_istore_n F dX12_stacks_18 rfl (by decide) rfl ?_
          refine a_iconst (v := 1) F dX12_stacks_19 (by decide) ?_
          refine a_istore_n F dX12_stacks_20 rfl (by decide) rfl ?_
          refine a_sub [2, 3, 1, 0] rfl ?_
          exact e_2 c_1 c_3
        · exact absurd c_5 (by decide)
  · refine a_if_eq (tgt := 16) F dX12_stacks_4 (by decide) (fun (c_6 : (0 : Int32) = 0) => ?_) (fun (c_6 : ¬ ((0 : Int32) = 0)) => ?_)
    · exact a_vret F E dX12_stacks_16 (Nat.le_refl 0) (Nat.le_refl 0) (e_3 c_1)
    · exact absurd c_6 (by decide)

theorem r_12_stacks_21 {X : Ctx} (F : Fx X cX12_stacks RX12 5 4 0 0) {Φ : Option Value → HS → List Nat → Prop} (E : Ex X none 0 0 Φ) {I A : Nat → Nat → Int32} {J : Nat → Nat → Int64} {x1 x2 x3 : Int32}
    (e_1 : (x3 = 0) → Φ none (mS I A J) plM)
    (e_2 : (¬ (x3 = 0)) → WA X (mS (numI I (1 : Int32) (25 : Int32)) A J) plM 0 0 38 [(0, .ref 0), (1, .int x1), (2, .int x2), (3, .int x3), (4, .int ((numI I (1 : Int32) (25 : Int32)) 0 39))] []) :
    WA X (mS I A J) plM 0 0 21 [(0, .ref 0), (1, .int x1), (2, .int x2), (3, .int x3)] [] := by
  refine a_iload_n F 3 dX12_stacks_21 rfl rfl ?_
  refine a_if_eq (tgt := 214) F dX12_stacks_22 (by decide) (fun (c_7 : x3 = 0) => ?_) (fun (c_7 : ¬ (x3 = 0)) => ?_)
  · exact a_vret F E dX12_stacks_214 (Nat.le_refl 0) (Nat.le_refl 0) (e_1 c_7)
  · refine a_aload_n F 0 dX12_stacks_25 rfl rfl ?_
    refine a_iconst (v := 1) F dX12_stacks_26 (by decide) ?_
    refine a_bipush (v := 25) F dX12_stacks_27 (by decide) ?_
    refine a_callV (b := 0) (As := [.int 1, .int 25]) (st := []) (ci := 12) F (c_isNumber (xl X) I A J 1 25) ml_12_331 im_yX12_isNumber se_yX12_isNumber (by decide) (by decide) rfl (by decide) rfl rfl dX12_stacks_29 (by decide) (Nat.le_refl 0) (Nat.le_refl 0) (hl_r (by decide) (hl_i (hl_i (hl_i hl_nil)))) hs_nil ?_
    rintro _ _ _ ⟨rfl, rfl, rfl⟩ _
    show WA X (mS (numI I (1 : Int32) (25 : Int32)) A J) plM 0 0 32 [(0, .ref 0), (1, .int x1), (2, .int x2), (3, .int x3)] []
    refine a_aload_n F 0 dX12_stacks_32 rfl rfl ?_
    refine a_geti F fl_12_296 rfl (by decide) rfl dX12_stacks_33 ?_
    refine a_istore F dX12_stacks_36 (by decide) rfl ?_
    refine a_sub [1, 2, 3, 4, 0] rfl ?_
    exact e_2 c_7

theorem r_12_stacks_38 {X : Ctx} (F : Fx X cX12_stacks RX12 5 4 0 0) {I A : Nat → Nat → Int32} {J : Nat → Nat → Int64} {x1 x2 x3 x4 : Int32}
    (o_1 : ((I 0 41) = 0) → vp_in ((26 * x1) + x4) 52)
    (e_2 : ((I 0 41) = 0) → ((A 43 ((26 * x1) + x4).toNatClampNeg) ≤ 0) → WA X (mS I A J) plM 0 0 69 [(0, .ref 0), (1, .int x1), (2, .int x2), (3, .int x3), (4, .int x4)] [])
    (e_3 : ((I 0 41) = 0) → (¬ ((A 43 ((26 * x1) + x4).toNatClampNeg) ≤ 0)) → WA X (mS (wrongI I (3 : Int32) (I 0 40)) A J) plM 0 0 69 [(0, .ref 0), (1, .int x1), (2, .int x2), (3, .int x3), (4, .int x4)] [])
    (e_4 : (¬ ((I 0 41) = 0)) → WA X (mS I A J) plM 0 0 69 [(0, .ref 0), (1, .int x1), (2, .int x2), (3, .int x3), (4, .int x4)] []) :
    WA X (mS I A J) plM 0 0 38 [(0, .ref 0), (1, .int x1), (2, .int x2), (3, .int x3), (4, .int x4)] [] := by
  refine a_aload_n F 0 dX12_stacks_38 rfl rfl ?_
  refine a_callV (b := 0) (As := []) (st := []) (ci := 12) F (c_fine (xl X) I A J ) ml_12_310 im_yX12_fine se_yX12_fine (by decide) (by decide) rfl (by decide) rfl rfl dX12_stacks_39 (by decide) (Nat.le_refl 0) (Nat.le_refl 0) (hl_r (by decide) (hl_i (hl_i (hl_i (hl_i hl_nil))))) hs_nil ?_
  rintro _ _ _ ⟨rfl, rfl, rfl⟩ _
  show WA X (mS I A J) plM 0 0 42 [(0, .ref 0), (1, .int x1), (2, .int x2), (3, .int x3), (4, .int x4)] [.int (if (I 0 41) = 0 then 1 else 0)]
  refine a_ite (fun (c_8 : (I 0 41) = 0) => ?_) (fun (c_8 : ¬ ((I 0 41) = 0)) => ?_)
  · refine a_if_eq (tgt := 69) F dX12_stacks_42 (by decide) (fun (c_9 : (1 : Int32) = 0) => ?_) (fun (c_9 : ¬ ((1 : Int32) = 0)) => ?_)
    · exact absurd c_9 (by decide)
    · refine a_aload_n F 0 dX12_stacks_45 rfl rfl ?_
      refine a_getr (b := 43) F fl_12_63 rfl (by decide) rfl rfl dX12_stacks_46 ?_
      refine a_bipush (v := 26) F dX12_stacks_49 (by decide) ?_
      refine a_iload_n F 1 dX12_stacks_51 rfl rfl ?_
      refine a_imul F dX12_stacks_52 ?_
      refine a_iload F 4 dX12_stacks_53 rfl ?_
      refine a_iadd F dX12_stacks_55 ?_
      refine a_iald F (by decide) rfl (o_1 c_8) dX12_stacks_56 ?_
      refine a_if_le (tgt := 69) F dX12_stacks_57 (by decide) (fun (c_10 : (A 43 ((26 * x1) + x4).toNatClampNeg) ≤ 0) => ?_) (fun (c_10 : ¬ ((A 43 ((26 * x1) + x4).toNatClampNeg) ≤ 0)) => ?_)
      · exact e_2 c_8 c_10
      · refine a_aload_n F 0 dX12_stacks_60 rfl rfl ?_
        refine a_iconst (v := 3) F dX12_stacks_61 (by decide) ?_
        refine a_aload_n F 0 dX12_stacks_62 rfl rfl ?_
        refine a_geti F fl_12_293 rfl (by decide) rfl dX12_stacks_63 ?_
        refine a_callV (b := 0) (As := [.int 3, .int (I 0 40)]) (st := []) (ci := 12) F (c_wrong (xl X) I A J 3 (I 0 40)) ml_12_319 im_yX12_wrong se_yX12_wrong (by decide) (by decide) rfl (by decide) rfl rfl dX12_stacks_66 (by decide) (Nat.le_refl 0) (Nat.le_refl 0) (hl_r (by decide) (hl_i (hl_i (hl_i (hl_i hl_nil))))) hs_nil ?_
        rintro _ _ _ ⟨rfl, rfl, rfl⟩ _
        show WA X (mS (wrongI I (3 : Int32) (I 0 40)) A J) plM 0 0 69 [(0, .ref 0), (1, .int x1), (2, .int x2), (3, .int x3), (4, .int x4)] []
        exact e_3 c_8 c_10
  · refine a_if_eq (tgt := 69) F dX12_stacks_42 (by decide) (fun (c_11 : (0 : Int32) = 0) => ?_) (fun (c_11 : ¬ ((0 : Int32) = 0)) => ?_)
    · exact e_4 c_8
    · exact absurd c_11 (by decide)

theorem r_12_stacks_69 {X : Ctx} (F : Fx X cX12_stacks RX12 5 4 0 0) {I A : Nat → Nat → Int32} {J : Nat → Nat → Int64} {x1 x2 x3 x4 : Int32}
    (e_1 : ((I 0 41) = 0) → (¬ x1 = 1) → WA X (mS I A J) plM 0 0 110 [(0, .ref 0), (1, .int x1), (2, .int x2), (3, .int x3), (4, .int x4)] [])
    (e_2 : ((I 0 41) = 0) → (x1 = 1) → (25 ≤ x4) → WA X (mS I A J) plM 0 0 110 [(0, .ref 0), (1, .int x1), (2, .int x2), (3, .int x3), (4, .int x4)] [])
    (o_3 : ((I 0 41) = 0) → (x1 = 1) → (¬ (25 ≤ x4)) → vp_in (25 - x4) 52)
    (e_4 : ((I 0 41) = 0) → (x1 = 1) → (¬ (25 ≤ x4)) → ((A 43 (25 - x4).toNatClampNeg) ≤ 0) → WA X (mS I A J) plM 0 0 110 [(0, .ref 0), (1, .int x1), (2, .int x2), (3, .int x3), (4, .int x4)] [])
    (e_5 : ((I 0 41) = 0) → (x1 = 1) → (¬ (25 ≤ x4)) → (¬ ((A 43 (25 - x4).toNatClampNeg) ≤ 0)) → WA X (mS (wrongI I (5 : Int32) (I 0 40)) A J) plM 0 0 110 [(0, .ref 0), (1, .int x1), (2, .int x2), (3, .int x3), (4, .int x4)] [])
    (e_6 : (¬ ((I 0 41) = 0)) → WA X (mS I A J) plM 0 0 110 [(0, .ref 0), (1, .int x1), (2, .int x2), (3, .int x3), (4, .int x4)] []) :
    WA X (mS I A J) plM 0 0 69 [(0, .ref 0), (1, .int x1), (2, .int x2), (3, .int x3), (4, .int x4)] [] := by
  refine a_aload_n F 0 dX12_stacks_69 rfl rfl ?_
  refine a_callV (b := 0) (As := []) (st := []) (ci := 12) F (c_fine (xl X) I A J ) ml_12_310 im_yX12_fine se_yX12_fine (by decide) (by decide) rfl (by decide) rfl rfl dX12_stacks_70 (by decide) (Nat.le_refl 0) (Nat.le_refl 0) (hl_r (by decide) (hl_i (hl_i (hl_i (hl_i hl_nil))))) hs_nil ?_
  rintro _ _ _ ⟨rfl, rfl, rfl⟩ _
  show WA X (mS I A J) plM 0 0 73 [(0, .ref 0), (1, .int x1), (2, .int x2), (3, .int x3), (4, .int x4)] [.int (if (I 0 41) = 0 then 1 else 0)]
  refine a_ite (fun (c_12 : (I 0 41) = 0) => ?_) (fun (c_12 : ¬ ((I 0 41) = 0)) => ?_)
  · refine a_if_eq (tgt := 110) F dX12_stacks_73 (by decide) (fun (c_13 : (1 : Int32) = 0) => ?_) (fun (c_13 : ¬ ((1 : Int32) = 0)) => ?_)
    · exact absurd c_13 (by decide)
    · refine a_iload_n F 1 dX12_stacks_76 rfl rfl ?_
      refine a_iconst (v := 1) F dX12_stacks_77 (by decide) ?_
      refine a_icmp_ne (tgt := 110) F dX12_stacks_78 (by decide) (fun (c_14 : ¬ x1 = 1) => ?_) (fun (c_14 : x1 = 1) => ?_)
      · exact e_1 c_12 c_14
      · refine a_iload F 4 dX12_stacks_81 rfl ?_
        refine a_bipush (v := 25) F dX12_stacks_83 (by decide) ?_
        refine a_icmp_ge (tgt := 110) F dX12_stacks_85 (by decide) (fun (c_15 : 25 ≤ x4) => ?_) (fun (c_15 : ¬ (25 ≤ x4)) => ?_)
        · exact e_2 c_12 c_14 c_15
        · refine a_aload_n F 0 dX12_stacks_88 rfl rfl ?_
          refine a_getr (b := 43) F fl_12_63 rfl (by decide) rfl rfl dX12_stacks_89 ?_
          refine a_bipush (v := 25) F dX12_stacks_92 (by decide) ?_
          refine a_iload F 4 dX12_stacks_94 rfl ?_
          refine a_isub F dX12_stacks_96 ?_
          refine a_iald F (by decide) rfl (o_3 c_12 c_14 c_15) dX12_stacks_97 ?_
          refine a_if_le (tgt := 110) F dX12_stacks_98 (by decide) (fun (c_16 : (A 43 (25 - x4).toNatClampNeg) ≤ 0) => ?_) (fun (c_16 : ¬ ((A 43 (25 - x4).toNatClampNeg) ≤ 0)) => ?_)
          · exact e_4 c_12 c_14 c_15 c_16
          · refine a_aload_n F 0 dX12_stacks_101 rfl rfl ?_
            refine a_iconst (v := 5) F dX12_stacks_102 (by decide) ?_
            refine a_aload_n F 0 dX12_stacks_103 rfl rfl ?_
            refine a_geti F fl_12_293 rfl (by decide) rfl dX12_stacks_104 ?_
            refine a_callV (b := 0) (As := [.int 5, .int (I 0 40)]) (st := []) (ci := 12) F (c_wrong (xl X) I A J 5 (I 0 40)) ml_12_319 im_yX12_wrong se_yX12_wrong (by decide) (by decide) rfl (by decide) rfl rfl dX12_stacks_107 (by decide) (Nat.le_refl 0) (Nat.le_refl 0) (hl_r (by decide) (hl_i (hl_i (hl_i (hl_i hl_nil))))) hs_nil ?_
            rintro _ _ _ ⟨rfl, rfl, rfl⟩ _
            show WA X (mS (wrongI I (5 : Int32) (I 0 40)) A J) plM 0 0 110 [(0, .ref 0), (1, .int x1), (2, .int x2), (3, .int x3), (4, .int x4)] []
            exact e_5 c_12 c_14 c_15 c_16
  · refine a_if_eq (tgt := 110) F dX12_stacks_73 (by decide) (fun (c_17 : (0 : Int32) = 0) => ?_) (fun (c_17 : ¬ ((0 : Int32) = 0)) => ?_)
    · exact e_6 c_12
    · exact absurd c_17 (by decide)

theorem r_12_stacks_110 {X : Ctx} (F : Fx X cX12_stacks RX12 5 4 0 0) {I A : Nat → Nat → Int32} {J : Nat → Nat → Int64} {x1 x2 x3 x4 : Int32}
    (o_1 : ((I 0 41) = 0) → ∃ n i, n ≤ 400 ∧ i ≤ n ∧ (I 0 36) = nI n ∧ (I 0 37) = nI i)
    (e_2 : ((I 0 41) = 0) → WA X (mS (gonI I A) A J) plM 0 0 121 [(0, .ref 0), (1, .int x1), (2, .int x2), (3, .int x3), (4, .int x4)] [])
    (e_3 : (¬ ((I 0 41) = 0)) → WA X (mS I A J) plM 0 0 121 [(0, .ref 0), (1, .int x1), (2, .int x2), (3, .int x3), (4, .int x4)] []) :
    WA X (mS I A J) plM 0 0 110 [(0, .ref 0), (1, .int x1), (2, .int x2), (3, .int x3), (4, .int x4)] [] := by
  refine a_aload_n F 0 dX12_stacks_110 rfl rfl ?_
  refine a_callV (b := 0) (As := []) (st := []) (ci := 12) F (c_fine (xl X) I A J ) ml_12_310 im_yX12_fine se_yX12_fine (by decide) (by decide) rfl (by decide) rfl rfl dX12_stacks_111 (by decide) (Nat.le_refl 0) (Nat.le_refl 0) (hl_r (by decide) (hl_i (hl_i (hl_i (hl_i hl_nil))))) hs_nil ?_
  rintro _ _ _ ⟨rfl, rfl, rfl⟩ _
  show WA X (mS I A J) plM 0 0 114 [(0, .ref 0), (1, .int x1), (2, .int x2), (3, .int x3), (4, .int x4)] [.int (if (I 0 41) = 0 then 1 else 0)]
  refine a_ite (fun (c_18 : (I 0 41) = 0) => ?_) (fun (c_18 : ¬ ((I 0 41) = 0)) => ?_)
  · refine a_if_eq (tgt := 121) F dX12_stacks_114 (by decide) (fun (c_19 : (1 : Int32) = 0) => ?_) (fun (c_19 : ¬ ((1 : Int32) = 0)) => ?_)
    · exact absurd c_19 (by decide)
    · refine a_aload_n F 0 dX12_stacks_117 rfl rfl ?_
      refine a_callV (b := 0) (As := []) (st := []) (ci := 12) F (c_goI (xl X) I A J  (o_1 c_18)) ml_12_316 im_yX12_go se_yX12_go (by decide) (by decide) rfl (by decide) rfl rfl dX12_stacks_118 (by decide) (Nat.le_refl 0) (Nat.le_refl 0) (hl_r (by decide) (hl_i (hl_i (hl_i (hl_i hl_nil))))) hs_nil ?_
      rintro _ _ _ ⟨rfl, rfl, rfl⟩ _
      show WA X (mS (gonI I A) A J) plM 0 0 121 [(0, .ref 0), (1, .int x1), (2, .int x2), (3, .int x3), (4, .int x4)] []
      exact e_2 c_18
  · refine a_if_eq (tgt := 121) F dX12_stacks_114 (by decide) (fun (c_20 : (0 : Int32) = 0) => ?_) (fun (c_20 : ¬ ((0 : Int32) = 0)) => ?_)
    · exact e_3 c_18
    · exact absurd c_20 (by decide)

theorem r_12_stacks_121 {X : Ctx} (F : Fx X cX12_stacks RX12 5 4 0 0) {I A : Nat → Nat → Int32} {J : Nat → Nat → Int64} {x1 x2 x3 x4 : Int32}
    (o_1 : (I 0 41) = 0 → (I 0 38) = 4 → okT I)
    (e_2 : WA X (mS (numI (needI I A (58 : Int32)) (1 : Int32) (15 : Int32)) A J) plM 0 0 134 [(0, .ref 0), (1, .int x1), (2, .int x2), (3, .int x3), (4, .int x4)] []) :
    WA X (mS I A J) plM 0 0 121 [(0, .ref 0), (1, .int x1), (2, .int x2), (3, .int x3), (4, .int x4)] [] := by
  refine a_aload_n F 0 dX12_stacks_121 rfl rfl ?_
  refine a_bipush (v := 58) F dX12_stacks_122 (by decide) ?_
  refine a_callV (b := 0) (As := [.int 58]) (st := []) (ci := 12) F (c_need (xl X) I A J 58 (o_1)) ml_12_328 im_yX12_need se_yX12_need (by decide) (by decide) rfl (by decide) rfl rfl dX12_stacks_124 (by decide) (Nat.le_refl 0) (Nat.le_refl 0) (hl_r (by decide) (hl_i (hl_i (hl_i (hl_i hl_nil))))) hs_nil ?_
  rintro _ _ _ ⟨rfl, rfl, rfl⟩ _
  show WA X (mS (needI I A (58 : Int32)) A J) plM 0 0 127 [(0, .ref 0), (1, .int x1), (2, .int x2), (3, .int x3), (4, .int x4)] []
  refine a_aload_n F 0 dX12_stacks_127 rfl rfl ?_
  refine a_iconst (v := 1) F dX12_stacks_128 (by decide) ?_
  refine a_bipush (v := 15) F dX12_stacks_129 (by decide) ?_
  refine a_callV (b := 0) (As := [.int 1, .int 15]) (st := []) (ci := 12) F (c_isNumber (xl X) (needI I A (58 : Int32)) A J 1 15) ml_12_331 im_yX12_isNumber se_yX12_isNumber (by decide) (by decide) rfl (by decide) rfl rfl dX12_stacks_131 (by decide) (Nat.le_refl 0) (Nat.le_refl 0) (hl_r (by decide) (hl_i (hl_i (hl_i (hl_i hl_nil))))) hs_nil ?_
  rintro _ _ _ ⟨rfl, rfl, rfl⟩ _
  show WA X (mS (numI (needI I A (58 : Int32)) (1 : Int32) (15 : Int32)) A J) plM 0 0 134 [(0, .ref 0), (1, .int x1), (2, .int x2), (3, .int x3), (4, .int x4)] []
  exact e_2

theorem r_12_stacks_134 {X : Ctx} (F : Fx X cX12_stacks RX12 5 4 0 0) {I A : Nat → Nat → Int32} {J : Nat → Nat → Int64} {x1 x2 x3 x4 : Int32}
    (e_1 : ((I 0 41) = 0) → ((x2 + (I 0 39)) ≤ 15) → WA X (mS I A J) plM 0 0 161 [(0, .ref 0), (1, .int x1), (2, .int x2), (3, .int x3), (4, .int x4)] [])
    (e_2 : ((I 0 41) = 0) → (¬ ((x2 + (I 0 39)) ≤ 15)) → WA X (mS (wrongI I (4 : Int32) (I 0 40)) A J) plM 0 0 161 [(0, .ref 0), (1, .int x1), (2, .int x2), (3, .int x3), (4, .int x4)] [])
    (e_3 : (¬ ((I 0 41) = 0)) → WA X (mS I A J) plM 0 0 161 [(0, .ref 0), (1, .int x1), (2, .int x2), (3, .int x3), (4, .int x4)] []) :
    WA X (mS I A J) plM 0 0 134 [(0, .ref 0), (1, .int x1), (2, .int x2), (3, .int x3), (4, .int x4)] [] := by
  refine a_aload_n F 0 dX12_stacks_134 rfl rfl ?_
  refine a_callV (b := 0) (As := []) (st := []) (ci := 12) F (c_fine (xl X) I A J ) ml_12_310 im_yX12_fine se_yX12_fine (by decide) (by decide) rfl (by decide) rfl rfl dX12_stacks_135 (by decide) (Nat.le_refl 0) (Nat.le_refl 0) (hl_r (by decide) (hl_i (hl_i (hl_i (hl_i hl_nil))))) hs_nil ?_
  rintro _ _ _ ⟨rfl, rfl, rfl⟩ _
  show WA X (mS I A J) plM 0 0 138 [(0, .ref 0), (1, .int x1), (2, .int x2), (3, .int x3), (4, .int x4)] [.int (if (I 0 41) = 0 then 1 else 0)]
  refine a_ite (fun (c_21 : (I 0 41) = 0) => ?_) (fun (c_21 : ¬ ((I 0 41) = 0)) => ?_)
  · refine a_if_eq (tgt := 161) F dX12_stacks_138 (by decide) (fun (c_22 : (1 : Int32) = 0) => ?_) (fun (c_22 : ¬ ((1 : Int32) = 0)) => ?_)
    · exact absurd c_22 (by decide)
    · refine a_iload_n F 2 dX12_stacks_141 rfl rfl ?_
      refine a_aload_n F 0 dX12_stacks_142 rfl rfl ?_
      refine a_geti F fl_12_296 rfl (by decide) rfl dX12_stacks_143 ?_
      refine a_iadd F dX12_stacks_146 ?_
      refine a_bipush (v := 15) F dX12_stacks_147 (by decide) ?_
      refine a_icmp_le (tgt := 161) F dX12_stacks_149 (by decide) (fun (c_23 : (x2 + (I 0 39)) ≤ 15) => ?_) (fun (c_23 : ¬ ((x2 + (I 0 39)) ≤ 15)) => ?_)
      · exact e_1 c_21 c_23
      · refine a_aload_n F 0 dX12_stacks_152 rfl rfl ?_
        refine a_iconst (v := 4) F dX12_stacks_153 (by decide) ?_
        refine a_aload_n F 0 dX12_stacks_154 rfl rfl ?_
        refine a_geti F fl_12_293 rfl (by decide) rfl dX12_stacks_155 ?_
        refine a_callV (b := 0) (As := [.int 4, .int (I 0 40)]) (st := []) (ci := 12) F (c_wrong (xl X) I A J 4 (I 0 40)) ml_12_319 im_yX12_wrong se_yX12_wrong (by decide) (by decide) rfl (by decide) rfl rfl dX12_stacks_158 (by decide) (Nat.le_refl 0) (Nat.le_refl 0) (hl_r (by decide) (hl_i (hl_i (hl_i (hl_i hl_nil))))) hs_nil ?_
        rintro _ _ _ ⟨rfl, rfl, rfl⟩ _
        show WA X (mS (wrongI I (4 : Int32) (I 0 40)) A J) plM 0 0 161 [(0, .ref 0), (1, .int x1), (2, .int x2), (3, .int x3), (4, .int x4)] []
        exact e_2 c_21 c_23
  · refine a_if_eq (tgt := 161) F dX12_stacks_138 (by decide) (fun (c_24 : (0 : Int32) = 0) => ?_) (fun (c_24 : ¬ ((0 : Int32) = 0)) => ?_)
    · exact e_3 c_21
    · exact absurd c_24 (by decide)

theorem r_12_stacks_161 {X : Ctx} (F : Fx X cX12_stacks RX12 5 4 0 0) {Φ : Option Value → HS → List Nat → Prop} (E : Ex X none 0 0 Φ) {I A : Nat → Nat → Int32} {J : Nat → Nat → Int64} {x1 x2 x3 x4 : Int32}
    (o_1 : ((I 0 41) = 0) → vp_in ((26 * x1) + x4) 52)
    (o_2 : ((I 0 41) = 0) → ∃ n i, n ≤ 400 ∧ i ≤ n ∧ (I 0 36) = nI n ∧ (I 0 37) = nI i)
    (o_3 : ((I 0 41) = 0) → (((gonI I (up1 A 43 (upd (A 43) ((26 * x1) + x4).toNatClampNeg (I 0 39)))) 0 41) = 0 ∧ ((gonI I (up1 A 43 (upd (A 43) ((26 * x1) + x4).toNatClampNeg (I 0 39)))) 0 38) = 4 ∧ ((gonI I (up1 A 43 (upd (A 43) ((26 * x1) + x4).toNatClampNeg (I 0 39)))) 0 39) = (44 : Int32)) → ∃ n i, n ≤ 400 ∧ i ≤ n ∧ ((gonI I (up1 A 43 (upd (A 43) ((26 * x1) + x4).toNatClampNeg (I 0 39)))) 0 36) = nI n ∧ ((gonI I (up1 A 43 (upd (A 43) ((26 * x1) + x4).toNatClampNeg (I 0 39)))) 0 37) = nI i)
    (e_4 : ((I 0 41) = 0) → (((gonI I (up1 A 43 (upd (A 43) ((26 * x1) + x4).toNatClampNeg (I 0 39)))) 0 41) = 0 ∧ ((gonI I (up1 A 43 (upd (A 43) ((26 * x1) + x4).toNatClampNeg (I 0 39)))) 0 38) = 4 ∧ ((gonI I (up1 A 43 (upd (A 43) ((26 * x1) + x4).toNatClampNeg (I 0 39)))) 0 39) = (44 : Int32)) → WA X (mS (gonI (gonI I (up1 A 43 (upd (A 43) ((26 * x1) + x4).toNatClampNeg (I 0 39)))) (up1 A 43 (upd (A 43) ((26 * x1) + x4).toNatClampNeg (I 0 39)))) (up1 A 43 (upd (A 43) ((26 * x1) + x4).toNatClampNeg (I 0 39))) J) plM 0 0 21 [(0, .ref 0), (1, .int x1), (2, .int (x2 + (I 0 39))), (3, .int 1)] [])
    (e_5 : ((I 0 41) = 0) → (¬ (((gonI I (up1 A 43 (upd (A 43) ((26 * x1) + x4).toNatClampNeg (I 0 39)))) 0 41) = 0 ∧ ((gonI I (up1 A 43 (upd (A 43) ((26 * x1) + x4).toNatClampNeg (I 0 39)))) 0 38) = 4 ∧ ((gonI I (up1 A 43 (upd (A 43) ((26 * x1) + x4).toNatClampNeg (I 0 39)))) 0 39) = (44 : Int32))) → WA X (mS (gonI I (up1 A 43 (upd (A 43) ((26 * x1) + x4).toNatClampNeg (I 0 39)))) (up1 A 43 (upd (A 43) ((26 * x1) + x4).toNatClampNeg (I 0 39))) J) plM 0 0 21 [(0, .ref 0), (1, .int x1), (2, .int (x2 + (I 0 39))), (3, .int 0)] [])
    (e_6 : (¬ ((I 0 41) = 0)) → Φ none (mS I A J) plM) :
    WA X (mS I A J) plM 0 0 161 [(0, .ref 0), (1, .int x1), (2, .int x2), (3, .int x3), (4, .int x4)] [] := by
  refine a_aload_n F 0 dX12_stacks_161 rfl rfl ?_
  refine a_callV (b := 0) (As := []) (st := []) (ci := 12) F (c_fine (xl X) I A J ) ml_12_310 im_yX12_fine se_yX12_fine (by decide) (by decide) rfl (by decide) rfl rfl dX12_stacks_162 (by decide) (Nat.le_refl 0) (Nat.le_refl 0) (hl_r (by decide) (hl_i (hl_i (hl_i (hl_i hl_nil))))) hs_nil ?_
  rintro _ _ _ ⟨rfl, rfl, rfl⟩ _
  show WA X (mS I A J) plM 0 0 165 [(0, .ref 0), (1, .int x1), (2, .int x2), (3, .int x3), (4, .int x4)] [.int (if (I 0 41) = 0 then 1 else 0)]
  refine a_ite (fun (c_25 : (I 0 41) = 0) => ?_) (fun (c_25 : ¬ ((I 0 41) = 0)) => ?_)
  · refine a_if_ne (tgt := 169) F dX12_stacks_165 (by decide) (fun (c_26 : ¬ (1 : Int32) = 0) => ?_) (fun (c_26 : (1 : Int32) = 0) => ?_)
    · refine a_iload_n F 2 dX12_stacks_169 rfl rfl ?_
      refine a_aload_n F 0 dX12_stacks_170 rfl rfl ?_
      refine a_geti F fl_12_296 rfl (by decide) rfl dX12_stacks_171 ?_
      refine a_iadd F dX12_stacks_174 ?_
      refine a_istore_n F dX12_stacks_175 rfl (by decide) rfl ?_
      refine a_aload_n F 1 dX12_stacks_176 rfl rfl ?_
      refine a_getr (b := 43) F fl_12_63 rfl (by decide) rfl rfl dX12_stacks_177 ?_
      refine a_bipush (v := 26) F dX12_stacks_180 (by decide) ?_
      refine a_iload_n F 2 dX12_stacks_182 rfl rfl ?_
      refine a_imul F dX12_stacks_183 ?_
      refine a_iload F 4 dX12_stacks_184 rfl ?_
      refine a_iadd F dX12_stacks_186 ?_
      refine a_aload_n F 1 dX12_stacks_187 rfl rfl ?_
      refine a_geti F fl_12_296 rfl (by decide) rfl dX12_stacks_188 ?_
      refine a_iast F (by decide) rfl (o_1 c_25) dX12_stacks_191 ?_
      refine a_aload_n F 1 dX12_stacks_192 rfl rfl ?_
      refine a_callV (b := 0) (As := []) (st := []) (ci := 12) F (c_goI (xl X) I (up1 A 43 (upd (A 43) ((26 * x1) + x4).toNatClampNeg (I 0 39))) J  (o_2 c_25)) ml_12_316 im_yX12_go se_yX12_go (by decide) (by decide) rfl (by decide) rfl rfl dX12_stacks_193 (by decide) (Nat.le_refl 0) (Nat.le_refl 0) (hl_i (hl_r (by decide) (hl_i (hl_i (hl_i hl_nil))))) hs_nil ?_
      rintro _ _ _ ⟨rfl, rfl, rfl⟩ _
      show WA X (mS (gonI I (up1 A 43 (upd (A 43) ((26 * x1) + x4).toNatClampNeg (I 0 39)))) (up1 A 43 (upd (A 43) ((26 * x1) + x4).toNatClampNeg (I 0 39))) J) plM 0 0 196 [(2, .int (x2 + (I 0 39))), (0, .ref 0), (1, .int x1), (3, .int x3), (4, .int x4)] []
      refine a_aload_n F 1 dX12_stacks_196 rfl rfl ?_
      refine a_bipush (v := 44) F dX12_stacks_197 (by decide) ?_
      refine a_callV (b := 0) (As := [.int 44]) (st := []) (ci := 12) F (c_is (xl X) (gonI I (up1 A 43 (upd (A 43) ((26 * x1) + x4).toNatClampNeg (I 0 39)))) (up1 A 43 (upd (A 43) ((26 * x1) + x4).toNatClampNeg (I 0 39))) J 44) ml_12_313 im_yX12_is se_yX12_is (by decide) (by decide) rfl (by decide) rfl rfl dX12_stacks_199 (by decide) (Nat.le_refl 0) (Nat.le_refl 0) (hl_i (hl_r (by decide) (hl_i (hl_i (hl_i hl_nil))))) hs_nil ?_
      rintro _ _ _ ⟨rfl, rfl, rfl⟩ _
      show WA X (mS (gonI I (up1 A 43 (upd (A 43) ((26 * x1) + x4).toNatClampNeg (I 0 39)))) (up1 A 43 (upd (A 43) ((26 * x1) + x4).toNatClampNeg (I 0 39))) J) plM 0 0 202 [(2, .int (x2 + (I 0 39))), (0, .ref 0), (1, .int x1), (3, .int x3), (4, .int x4)] [.int (if ((gonI I (up1 A 43 (upd (A 43) ((26 * x1) + x4).toNatClampNeg (I 0 39)))) 0 41) = 0 ∧ ((gonI I (up1 A 43 (upd (A 43) ((26 * x1) + x4).toNatClampNeg (I 0 39)))) 0 38) = 4 ∧ ((gonI I (up1 A 43 (upd (A 43) ((26 * x1) + x4).toNatClampNeg (I 0 39)))) 0 39) = (44 : Int32) then 1 else 0)]
      refine a_ite (fun (c_27 : ((gonI I (up1 A 43 (upd (A 43) ((26 * x1) + x4).toNatClampNeg (I 0 39)))) 0 41) = 0 ∧ ((gonI I (up1 A 43 (upd (A 43) ((26 * x1) + x4).toNatClampNeg (I 0 39)))) 0 38) = 4 ∧ ((gonI I (up1 A 43 (upd (A 43) ((26 * x1) + x4).toNatClampNeg (I 0 39)))) 0 39) = (44 : Int32)) => ?_) (fun (c_27 : ¬ (((gonI I (up1 A 43 (upd (A 43) ((26 * x1) + x4).toNatClampNeg (I 0 39)))) 0 41) = 0 ∧ ((gonI I (up1 A 43 (upd (A 43) ((26 * x1) + x4).toNatClampNeg (I 0 39)))) 0 38) = 4 ∧ ((gonI I (up1 A 43 (upd (A 43) ((26 * x1) + x4).toNatClampNeg (I 0 39)))) 0 39) = (44 : Int32))) => ?_)
      · refine a_istore_n F dX12_stacks_202 rfl (by decide) rfl ?_
        refine a_iload_n F 0 dX12_stacks_203 rfl rfl ?_
        refine a_if_eq (tgt := 211) F dX12_stacks_204 (by decide) (fun (c_28 : (1 : Int32) = 0) => ?_) (fun (c_28 : ¬ ((1 : Int32) = 0)) => ?_)
        · exact absurd c_28 (by decide)
        · refine a_aload_n F 2 dX12_stacks_207 rfl rfl ?_
          refine a_callV (b := 0) (As := []) (st := []) (ci := 12) F (c_goI (xl X) (gonI I (up1 A 43 (upd (A 43) ((26 * x1) + x4).toNatClampNeg (I 0 39)))) (up1 A 43 (upd (A 43) ((26 * x1) + x4).toNatClampNeg (I 0 39))) J  (o_3 c_25 c_27)) ml_12_316 im_yX12_go se_yX12_go (by decide) (by decide) rfl (by decide) rfl rfl dX12_stacks_208 (by decide) (Nat.le_refl 0) (Nat.le_refl 0) (hl_i (hl_i (hl_r (by decide) (hl_i (hl_i hl_nil))))) hs_nil ?_
          rintro _ _ _ ⟨rfl, rfl, rfl⟩ _
          show WA X (mS (gonI (gonI I (up1 A 43 (upd (A 43) ((26 * x1) + x4).toNatClampNeg (I 0 39)))) (up1 A 43 (upd (A 43) ((26 * x1) + x4).toNatClampNeg (I 0 39)))) (up1 A 43 (upd (A 43) ((26 * x1) + x4).toNatClampNeg (I 0 39))) J) plM 0 0 211 [(3, .int 1), (2, .int (x2 + (I 0 39))), (0, .ref 0), (1, .int x1), (4, .int x4)] []
          refine a_goto (tgt := 21) F dX12_stacks_211 (by decide) ?_
          refine a_sub [2, 3, 1, 0] rfl ?_
          exact e_4 c_25 c_27
      · refine a_istore_n F dX12_stacks_202 rfl (by decide) rfl ?_
        refine a_iload_n F 0 dX12_stacks_203 rfl rfl ?_
        refine a_if_eq (tgt := 211) F dX12_stacks_204 (by decide) (fun (c_29 : (0 : Int32) = 0) => ?_) (fun (c_29 : ¬ ((0 : Int32) = 0)) => ?_)
        · refine a_goto (tgt := 21) F dX12_stacks_211 (by decide) ?_
          refine a_sub [2, 3, 1, 0] rfl ?_
          exact e_5 c_25 c_27
        · exact absurd c_29 (by decide)
    · exact absurd c_26 (by decide)
  · refine a_if_ne (tgt := 169) F dX12_stacks_165 (by decide) (fun (c_30 : ¬ (0 : Int32) = 0) => ?_) (fun (c_30 : (0 : Int32) = 0) => ?_)
    · exact absurd c_30 (by decide)
    · exact a_vret F E dX12_stacks_168 (Nat.le_refl 0) (Nat.le_refl 0) (e_6 c_25)

set_option maxRecDepth 10000 in
theorem c_stacks (l : Launch) (I A : Nat → Nat → Int32) (J : Nat → Nat → Int64) (pl n p : Nat) (rd : Nat → Nat) (hpl : pl ≤ 1) (h0 : I 0 41 = 0) (hp : AtP I (A 34) n p) (hrd : rdRow (A 43) rd) : Con l 4 yX12_stacks cX12_stacks 5 none [.ref 0, .int (nI pl)] (mS I A J) plM 0 0 (stkQ I A J n (stkT (A 34) n pl rd p)) := by
  refine Con.of (by decide) (Nat.le_of_ble_eq_true rfl) (fun X hX9 hn9 F E => ?_)
  -- behind a FAULT nothing happens
  have dead : ∀ (I A : Nat → Nat → Int32) (x2 x3 x4 : Int32) (Φ : Option Value → HS → List Nat → Prop), Ex X none 0 0 Φ → ¬ I 0 41 = 0 → Φ none (mS I A J) plM → ∀ pc, pc = 69 ∨ pc = 110 ∨ pc = 121 ∨ pc = 134 ∨ pc = 161 → WA X (mS I A J) plM 0 0 pc [(0, .ref 0), (1, .int (nI pl)), (2, .int x2), (3, .int x3), (4, .int x4)] [] := by
    intro I A x2 x3 x4 Φ E hd hΦ
    have k161 : WA X (mS I A J) plM 0 0 161 [(0, .ref 0), (1, .int (nI pl)), (2, .int x2), (3, .int x3), (4, .int x4)] [] := r_12_stacks_161 F E (fun h => absurd h hd) (fun h => absurd h hd) (fun h => absurd h hd) (fun h => absurd h hd) (fun h => absurd h hd) (fun _ => hΦ)
    have k134 : WA X (mS I A J) plM 0 0 134 [(0, .ref 0), (1, .int (nI pl)), (2, .int x2), (3, .int x3), (4, .int x4)] [] := r_12_stacks_134 F (fun h => absurd h hd) (fun h => absurd h hd) (fun _ => k161)
    have k121 : WA X (mS I A J) plM 0 0 121 [(0, .ref 0), (1, .int (nI pl)), (2, .int x2), (3, .int x3), (4, .int x4)] [] := r_12_stacks_121 F (fun h => absurd h hd) (by rw [need_d hd, num_d hd]; exact k134)
    have k110 : WA X (mS I A J) plM 0 0 110 [(0, .ref 0), (1, .int (nI pl)), (2, .int x2), (3, .int x3), (4, .int x4)] [] := r_12_stacks_110 F (fun h => absurd h hd) (fun h => absurd h hd) (fun _ => k121)
    have k69 : WA X (mS I A J) plM 0 0 69 [(0, .ref 0), (1, .int (nI pl)), (2, .int x2), (3, .int x3), (4, .int x4)] [] := r_12_stacks_69 F (fun h => absurd h hd) (fun h => absurd h hd) (fun h => absurd h hd) (fun h => absurd h hd) (fun h => absurd h hd) (fun _ => k110)
    rintro pc (rfl | rfl | rfl | rfl | rfl) <;> assumption
  have wrong : ∀ (I' A' : Nat → Nat → Int32) (x2 x3 x4 : Int32) (f q : Nat) (res : Except (Nat × Nat) (Nat × (Nat → Nat))), f ≠ 0 → f < 10 → q ≤ n → I' 0 40 = nI q → res = .error (f, q) → I' 0 41 = 0 → Fr I I' → (∀ q, q ≠ 43 → A' q = A q) → Ex X none 0 0 (stkQ I A J n res) → ∀ pc, pc = 69 ∨ pc = 110 ∨ pc = 121 ∨ pc = 134 ∨ pc = 161 → WA X (mS (wrongI I' (nI f) (I' 0 40)) A' J) plM 0 0 pc [(0, .ref 0), (1, .int (nI pl)), (2, .int x2), (3, .int x3), (4, .int x4)] [] := by
    intro I' A' x2 x3 x4 f q res hf hf2 hq h40 hres h41 hfr hA E
    have w := wrong_0 (f := nI f) (p := I' 0 40) h41
    refine dead _ A' x2 x3 x4 _ E (by rw [w.1]; exact nI_ne0 (by omega) (by omega)) ?_
    subst hres
    exact ⟨rfl, rfl, _, A', rfl, hfr.tr (wrong_fr _ _ _), hA, hf, hf2, hq, w.1, by rw [w.2]; exact h40⟩
  have hpln : (nI pl = 1) ↔ pl = 1 := nI_eqn 1 (by omega) (by omega)
  -- the loop, at its head with a stack due
  have loop : ∀ (f all p : Nat) (rd : Nat → Nat) (I' A' : Nat → Nat → Int32) (x3 : Int32), ¬ x3 = 0 → n + 1 - p ≤ f → 0 < f → all ≤ 15 → I' 0 41 = 0 → I' 0 42 = I 0 42 → AtP I' (A 34) n p → rdRow (A' 43) rd → Fr I I' → (∀ q, q ≠ 43 → A' q = A q) → Ex X none 0 0 (stkQ I A J n (stkF (A 34) n pl f all rd p)) → WA X (mS I' A' J) plM 0 0 21 [(0, .ref 0), (1, .int (nI pl)), (2, .int (nI all)), (3, .int x3)] [] := by
    intro f
    induction f with
    | zero => intro all p rd I' A' x3 _ _ h; omega
    | succ f ih =>
      intro all p rd I' A' x3 hx3 hf _ hall h41 h42 hp hrd hfr hA E
      obtain ⟨hn, hpn, h36, h37, h38, h39, h40⟩ := id hp
      refine r_12_stacks_21 F E (fun h => absurd h hx3) (fun _ => ?_)
      unfold stkF at E
      by_cases c1 : ¬ tkS (A 34) n p = 2
      · rw [if_pos c1] at E
        rw [num_1 h41 (by rw [h38]; exact c1)]
        have hd : ¬ wrongI I' 1 (I' 0 40) 0 41 = 0 := by rw [(wrong_0 h41).1]; decide
        exact r_12_stacks_38 F (fun h => absurd h hd) (fun h => absurd h hd) (fun h => absurd h hd) (fun _ => wrong I' A' _ _ _ 1 p _ (by omega) (by omega) hpn h40 rfl h41 hfr hA E 69 (Or.inl rfl))
      · rw [if_neg c1] at E
        have c1 : tkS (A 34) n p = 2 := Classical.not_not.mp c1
        have hplt : p < n := tk_lt (by rw [c1]; decide)
        by_cases c2 : tkV (A 34) n p < 1 ∨ 25 < tkV (A 34) n p
        · rw [if_pos c2] at E
          rw [num_2 h41 (by rw [h38]; exact c1) (by rw [h39]; exact c2)]
          have hd : ¬ wrongI I' 2 (I' 0 40) 0 41 = 0 := by rw [(wrong_0 h41).1]; decide
          exact r_12_stacks_38 F (fun h => absurd h hd) (fun h => absurd h hd) (fun h => absurd h hd) (fun _ => wrong I' A' _ _ _ 2 p _ (by omega) (by omega) hpn h40 rfl h41 hfr hA E 69 (Or.inl rfl))
        · rw [if_neg c2] at E
          rw [num_t h41 (by rw [h38]; exact c1) (by rw [h39]; exact c2), h39]
          obtain ⟨v, hv, ev⟩ := nI_of2 (x := tkV (A 34) n p) (M := 25) (n := 25) rfl (by grind) (by grind)
          have hv1 : 1 ≤ v := by
            rcases Nat.eq_zero_or_pos v with rfl | h
            · exfalso; apply c2; left; rw [ev]; decide
            · exact h
          have eN : tkN (A 34) n p = v := by unfold tkN; rw [ev]; exact nI_clamp (by omega)
          rw [eN] at E
          rw [ev]
          have ei : 26 * nI pl + nI v = nI (26 * pl + v) := by rw [lit 26, pk_mul, nI_add]
          have r1 := hrd (26 * pl + v) (by omega)
          refine r_12_stacks_38 F (fun _ => by rw [ei]; exact vp_in_nI (by omega) (by omega)) (fun _ c3 => ?_) (fun _ c3 => ?_) (fun h => absurd h41 h)
          · rw [ei, nI_clamp (by omega), r1.1, show (nI (rd (26 * pl + v)) ≤ 0) ↔ rd (26 * pl + v) ≤ 0 from nI_leI (b := 0) (by omega) (by omega)] at c3
            rw [if_neg (by omega)] at E
            have k110 : ¬ (pl = 1 ∧ v < 25 ∧ 0 < rd (25 - v)) → WA X (mS I' A' J) plM 0 0 110 [(0, .ref 0), (1, .int (nI pl)), (2, .int (nI all)), (3, .int x3), (4, .int (nI v))] [] := by
              intro c4
              rw [if_neg c4] at E
              refine r_12_stacks_110 F (fun _ => hp.ok hplt) (fun _ => ?_) (fun h => absurd h41 h)
              have hA34 : A' 34 = A 34 := hA 34 (by decide)
              rw [gon_A (A := A) hA34]
              have hp1 := hp.go hplt
              have g41 : gonI I' A 0 41 = 0 := by rw [gon_k (by decide)]; exact h41
              have hb1 := nxP_b (T := A 34) hplt
              obtain ⟨-, hpn1, h36a, h37a, h38a, h39a, h40a⟩ := id hp1
              refine r_12_stacks_121 F (fun _ h4 => hp1.ok (tk_lt (by rw [← h38a, h4]; decide))) ?_
              by_cases c5 : ¬ (tkS (A 34) n (nxP (A 34) n p) = 4 ∧ tkV (A 34) n (nxP (A 34) n p) = 58)
              · rw [if_pos c5] at E
                rw [need_f (by rw [h38a, h39a]; exact c5), num_d (by rw [(wrong_0 g41).1]; decide)]
                exact wrong _ A' _ _ _ 1 _ _ (by omega) (by omega) hpn1 h40a rfl g41 (hfr.tr (gon_fr _ _)) hA E 134 (by omega)
              · rw [if_neg c5] at E
                have c5 := Classical.not_not.mp c5
                have hplt1 : nxP (A 34) n p < n := tk_lt (by rw [c5.1]; decide)
                rw [need_t g41 (by rw [h38a]; exact c5.1) (by rw [h39a]; exact c5.2), gon_A (A := A) hA34]
                have hp2 := hp1.go hplt1
                have g412 : gonI (gonI I' A) A 0 41 = 0 := by rw [gon_k (by decide)]; exact g41
                have hb2 := nxP_b (T := A 34) hplt1
                obtain ⟨-, hpn2, h36b, h37b, h38b, h39b, h40b⟩ := id hp2
                have hfr2 : Fr I (gonI (gonI I' A) A) := (hfr.tr (gon_fr _ _)).tr (gon_fr _ _)
                by_cases c6 : ¬ tkS (A 34) n (nxP (A 34) n (nxP (A 34) n p)) = 2
                · rw [if_pos c6] at E
                  rw [num_1 g412 (by rw [h38b]; exact c6)]
                  exact wrong _ A' _ _ _ 1 _ _ (by omega) (by omega) hpn2 h40b rfl g412 hfr2 hA E 134 (by omega)
                · rw [if_neg c6] at E
                  have c6 := Classical.not_not.mp c6
                  have hplt2 : nxP (A 34) n (nxP (A 34) n p) < n := tk_lt (by rw [c6]; decide)
                  by_cases c7 : tkV (A 34) n (nxP (A 34) n (nxP (A 34) n p)) < 1 ∨ 15 < tkV (A 34) n (nxP (A 34) n (nxP (A 34) n p))
                  · rw [if_pos c7] at E
                    rw [num_2 g412 (by rw [h38b]; exact c6) (by rw [h39b]; exact c7)]
                    exact wrong _ A' _ _ _ 2 _ _ (by omega) (by omega) hpn2 h40b rfl g412 hfr2 hA E 134 (by omega)
                  · rw [if_neg c7] at E
                    rw [num_t g412 (by rw [h38b]; exact c6) (by rw [h39b]; exact c7)]
                    obtain ⟨w, hw, ew⟩ := nI_of2 (x := tkV (A 34) n (nxP (A 34) n (nxP (A 34) n p))) (M := 15) (n := 15) rfl (by grind) (by grind)
                    have eW : tkN (A 34) n (nxP (A 34) n (nxP (A 34) n p)) = w := by unfold tkN; rw [ew]; exact nI_clamp (by omega)
                    rw [eW] at E
                    have es : nI all + gonI (gonI I' A) A 0 39 = nI (all + w) := by rw [h39b, ew, nI_add]
                    refine r_12_stacks_134 F (fun _ c8 => ?_) (fun _ c8 => ?_) (fun h => absurd g412 h)
                    · rw [es, nI_len 15 (by omega) (by omega)] at c8
                      rw [if_neg (by omega)] at E
                      have hrow : ∀ k, k < 52 → upd (A' 43) (26 * pl + v) (nI w) k = nI (va_up rd (26 * pl + v) w k) ∧ va_up rd (26 * pl + v) w k ≤ 15 := by
                        intro k hk
                        by_cases hkk : k = 26 * pl + v
                        · subst hkk; rw [upd_in]; simp [va_up]; exact hw
                        · rw [upd_out hkk]; simp only [va_up, if_neg hkk]; exact hrd k hk
                      have hp3 : AtP (gonI (gonI (gonI I' A) A) A) (A 34) n (nxP (A 34) n (nxP (A 34) n (nxP (A 34) n p))) := hp2.go hplt2
                      have hb3 := nxP_b (T := A 34) hplt2
                      obtain ⟨-, hpn3, h36c, h37c, h38c, h39c, h40c⟩ := id hp3
                      have g413 : gonI (gonI (gonI I' A) A) A 0 41 = 0 := by rw [gon_k (by decide)]; exact g412
                      have g423 : gonI (gonI (gonI I' A) A) A 0 42 = I 0 42 := by rw [gon_k (by decide), gon_k (by decide), gon_k (by decide)]; exact h42
                      have hfr3 := hfr2.tr (gon_fr (gonI (gonI I' A) A) A)
                      have hA2 : ∀ q, q ≠ 43 → up1 A' 43 (upd (A' 43) (26 * pl + v) (nI w)) q = A q := fun q hq => by rw [up1_p hq]; exact hA q hq
                      have hA342 : up1 A' 43 (upd (A' 43) (26 * pl + v) (nI w)) 34 = A 34 := hA2 34 (by decide)
                      refine r_12_stacks_161 F E (fun _ => by rw [ei]; exact vp_in_nI (by omega) (by omega)) (fun _ => hp2.ok hplt2) ?_ ?_ ?_ (fun h => absurd g412 h)
                      · intro _ c9
                        rw [ei, nI_clamp (by omega), h39b, ew, gon_A (A := A) hA342] at c9 ⊢
                        exact hp3.ok (tk_lt (by rw [← h38c, c9.2.1]; decide))
                      · intro _ c9
                        rw [ei, nI_clamp (by omega), h39b, ew, gon_A (A := A) hA342] at c9
                        rw [ei, nI_clamp (by omega), h39b, ew, gon_A (A := A) hA342, gon_A (A := A) hA342, nI_add]
                        rw [h38c, h39c] at c9
                        rw [if_pos c9.2] at E
                        have hplt3 : nxP (A 34) n (nxP (A 34) n (nxP (A 34) n p)) < n := tk_lt (by rw [c9.2.1]; decide)
                        have hb4 := nxP_b (T := A 34) hplt3
                        exact ih (all + w) _ _ _ _ 1 (by decide) (by omega) (by omega) (by omega) (by rw [gon_k (by decide)]; exact g413) (by rw [gon_k (by decide)]; exact g423) (hp3.go hplt3) (by rw [up1_s]; exact hrow) (hfr3.tr (gon_fr _ _)) hA2 E
                      · intro _ c9
                        rw [ei, nI_clamp (by omega), h39b, ew, gon_A (A := A) hA342, h38c, h39c] at c9
                        rw [ei, nI_clamp (by omega), h39b, ew, gon_A (A := A) hA342, nI_add]
                        rw [if_neg (fun z => c9 ⟨g413, z⟩)] at E
                        refine r_12_stacks_21 F E (fun _ => ?_) (fun h => absurd rfl h)
                        exact ⟨rfl, rfl, _, _, rfl, hfr3, hA2, g413, g423, hp3, by rw [up1_s]; exact hrow⟩
                    · rw [es, nI_len 15 (by omega) (by omega)] at c8
                      rw [if_pos (by omega)] at E
                      exact wrong _ A' _ _ _ 4 _ _ (by omega) (by omega) hpn2 h40b rfl g412 hfr2 hA E 161 (by omega)
            refine r_12_stacks_69 F (fun _ c4 => ?_) (fun _ c4 c5 => ?_) (fun _ _ c5 => ?_) (fun _ c4 c5 c6 => ?_) (fun _ c4 c5 c6 => ?_) (fun h => absurd h41 h)
            · exact k110 (fun z => c4 (hpln.mpr z.1))
            · rw [nI_gen 25 (by omega) (by omega)] at c5; exact k110 (fun z => by omega)
            · rw [nI_gen 25 (by omega) (by omega)] at c5
              rw [show (25 : Int32) - nI v = nI (25 - v) from pk_sub (a := 25) (by omega)]; exact vp_in_nI (by omega) (by omega)
            · rw [nI_gen 25 (by omega) (by omega)] at c5
              rw [show (25 : Int32) - nI v = nI (25 - v) from pk_sub (a := 25) (by omega), nI_clamp (by omega), (hrd (25 - v) (by omega)).1, show (nI (rd (25 - v)) ≤ 0) ↔ rd (25 - v) ≤ 0 from nI_leI (b := 0) (by have := (hrd (25 - v) (by omega)).2; omega) (by omega)] at c6
              exact k110 (fun z => by omega)
            · rw [nI_gen 25 (by omega) (by omega)] at c5
              rw [show (25 : Int32) - nI v = nI (25 - v) from pk_sub (a := 25) (by omega), nI_clamp (by omega), (hrd (25 - v) (by omega)).1, show (nI (rd (25 - v)) ≤ 0) ↔ rd (25 - v) ≤ 0 from nI_leI (b := 0) (by have := (hrd (25 - v) (by omega)).2; omega) (by omega)] at c6
              rw [if_pos ⟨hpln.mp c4, by omega, by omega⟩] at E
              exact wrong _ A' _ _ _ 5 _ _ (by omega) (by omega) hpn h40 rfl h41 hfr hA E 110 (by omega)
          · rw [ei, nI_clamp (by omega), r1.1, show (nI (rd (26 * pl + v)) ≤ 0) ↔ rd (26 * pl + v) ≤ 0 from nI_leI (b := 0) (by omega) (by omega)] at c3
            rw [if_pos (by omega)] at E
            exact wrong _ A' _ _ _ 3 _ _ (by omega) (by omega) hpn h40 rfl h41 hfr hA E 69 (by omega)
  refine r_12_stacks_0 F E (fun _ c => ?_) (fun _ c => ?_) (fun h => absurd h0 h)
  · obtain ⟨-, -, h36, h37, h38, h39, h40⟩ := id hp
    rw [h38, h39] at c
    unfold stkT; rw [if_pos c.2]
    exact ⟨rfl, rfl, I, A, rfl, Fr.rf I, fun _ _ => rfl, h0, rfl, hp, hrd⟩
  · obtain ⟨-, -, h36, h37, h38, h39, h40⟩ := id hp
    rw [h38, h39] at c
    unfold stkT at E; rw [if_neg (fun z => c ⟨h0, z⟩)] at E
    exact loop (n + 1) 0 p rd I A 1 (by decide) (by omega) (by omega) (by omega) h0 rfl hp hrd (Fr.rf I) (fun _ _ => rfl) E
